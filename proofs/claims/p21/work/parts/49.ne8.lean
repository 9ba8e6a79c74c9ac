/-! ===== ne8 ===== -/
set_option maxHeartbeats 4000000 in
set_option maxRecDepth 100000 in
/-- X12_needed -/
theorem c_X12_needed_n (l : Launch) (dC : Nat → ClassId) (dI : Nat → Nat → Nat) (sz : Nat) (h : Nat) (g : Nat → Nat → Nat) (ca : Nat → Nat → ClassId) (iv : Nat → Nat → Int32) (lv : Nat → Nat → Int64) (fa : Nat → Nat → Nat → Int32) (la : Nat → Nat → Nat → Int64) (hI : IX iv fa) (a : Int32) (b : Int32) (hJC : JCf (iv 12 23).toInt (fa 12 25) (fa 12 26) (fa 12 27) (fa 12 28)) (hJR : JRf (iv 12 3).toInt (fa 12 7)) (hJN : JNf (iv 12 3).toInt (fa 12 4) (fa 12 5)) (hJO : (iv 12 20).toInt = -1 ∧ (iv 12 21).toInt = -1 ∧ (iv 12 22).toInt = -1) (hJK : ∀ k j : Nat, (k : Int) < (iv 12 23).toInt → 12 * k ≤ j → (j : Int) < 12 * (k : Int) + (fa 12 25 k).toInt → (fa 12 26 j).toInt = 3 → 0 ≤ (fa 12 28 j).toInt ∧ (fa 12 28 j).toInt < (k : Int)) : Met l yX12_needed (wc yX12_needed cX12_needed 7 (some .int)) ({ frames := 3, cells := 0, slots := 0, locals := 81 } : Room) (pW (dC, dI) classes (WM h g ca iv lv fa la) (TM ca) sz [.ref h, .int a, .int b]) (va_Qi (fun r (u : SS) => ∃ (na_12_39 : Nat → Int32) (na_12_40 : Nat → Int32) (na_12_50 : Nat → Int32) (ni_12_19 : Int32) (ni_12_41 : Int32) (nl_12_17 : Int64) (nl_12_18 : Int64), (∀ j, inb (bA 12 39 j) (na_12_39 j)) ∧ (∀ j, inb (bA 12 40 j) (na_12_40 j)) ∧ (∀ j, inb (bA 12 50 j) (na_12_50 j)) ∧ inb (bI 12 41) ni_12_41 ∧ (((r.toInt = -100001 ∧ ¬ (0 ≤ a.toInt ∧ a.toInt < (iv 12 1).toInt)) ∨ (r.toInt = -100002 ∧ (0 ≤ a.toInt ∧ a.toInt < (iv 12 1).toInt) ∧ ¬ (1 ≤ b.toInt ∧ b.toInt ≤ 100)) ∨ ((0 ≤ a.toInt ∧ a.toInt < (iv 12 1).toInt) ∧ (1 ≤ b.toInt ∧ b.toInt ≤ 100) ∧ ∃ pt : Int32, FoY (iv 12 23).toInt (fa 12 24) (fa 12 25) (fa 12 26) (fa 12 27) (fa 12 28) 2 (iv 12 0).toInt pt.toInt ∧ NeR (neY (fa 12 4) (fa 12 5) (fa 12 11) (fa 12 12) (fa 12 7) (fa 12 8) a.toInt (iv 12 0).toInt ((iv 12 3).toInt).toNat pt b) (lsP (cyP (fa 12 4) (fa 12 5) (fa 12 11) (fa 12 12) a.toInt (iv 12 0).toInt 0) ((iv 12 3).toInt).toNat).length r.toInt))) ∧ ((-100002) ≤ r.toInt ∧ r.toInt ≤ 12) ∧ u = ((u2 (u2 iv 12 19 ni_12_19) 12 41 ni_12_41), (u2 (u2 lv 12 17 nl_12_17) 12 18 nl_12_18), (u2 (u2 (u2 fa 12 39 na_12_39) 12 40 na_12_40) 12 50 na_12_50), la)) (bM (dC, dI) h g ca (va_A (WM h g ca iv lv fa la) sz)) (va_A (WM h g ca iv lv fa la) sz)) 0 0 (va_A (WM h g ca iv lv fa la) sz) := by
  refine Met.ofW (cc := cX12_needed) (maxL := 7) (ret := (some .int)) (by decide) rfl ?_
  intro p e s m args below meth c s₁ B hml hv
  obtain ⟨rfl, hsz, hP, hK, hD0⟩ := hv
  have hx := B.exec
  have hb := B.bytes
  have hr := B.returns
  have ht := tb_tl (atoms_spec (ws := wc yX12_needed cX12_needed 7 (some .int)) B.pre)
  have hown : s.vm.findClass RX12 = some m.cls := findClass_of_methodNamed B.named
  have hlocks := B.notSynchronized
  subst hsz
  have hD := hD0.self (sz := s.heap.size)
  generalize hAe : va_A (WM h g ca iv lv fa la) s.heap.size = A at hD ⊢
  have hA : ∀ q : Nat, s.heap.size ≤ q → A q := fun q h => by rw [← hAe]; exact Or.inr h
  have hS : va_S A s.heap s.heap [] := va_S.rf
  have hl := lv_entry [.ref h, .int a, .int b] (n := 7) (Nat.le_of_ble_eq_true rfl)
  rw [lg_entry_eq]
  generalize (lg_sl [.ref h, .int a, .int b] ++ List.replicate (7 - (lg_sl [.ref h, .int a, .int b]).length) Slot.unset).toArray = ls at hl ⊢
  have hl : lv_has ls 7 [(0, .ref h), (1, .int a), (2, .int b)] := hl
  refine lv_aload_n hx hb dX12_needed_0 rfl (lv_at hl 0 rfl) ?_
  refine lv_iload_n hx hb dX12_needed_1 rfl (lv_at hl 1 rfl) ?_
  refine vp_callSi (W.runV (As := [.int a]) (rest := []) ⟨hx, hb, hml, hown, ht⟩ (c_X12_noBale l dC dI h g ca iv lv fa la hI a) (kV 1 ht m_1385 m_1387 m_42 m_89 m_1388 rfl rfl hd_X12_noBale_v ⟨Nat.le_of_ble_eq_true rfl, Nat.le_of_ble_eq_true rfl⟩) (vR hP hK (rM_12 hK hP)) rfl rfl hl.1 rfl (lv_room (Nat.le_of_ble_eq_true rfl)) dX12_needed_2 ⟨Nat.le_of_ble_eq_true rfl, Nat.le_of_ble_eq_true rfl⟩) (fun r1 hr1 => ?_)
  rcases hr1 with ⟨rfl, fr1⟩ | ⟨rfl, fr1⟩
  · skip
    have i_12_1 : 0 ≤ (iv 12 1).toInt ∧ (iv 12 1).toInt ≤ 10 := hI.1 12 1
    have fr1 : ¬ (0 ≤ (a : Int32).toInt ∧ (a : Int32).toInt < ((iv 12 1) : Int32).toInt) := fr1
    refine lv_if_eq (tgt := 11) hx hb dX12_needed_5 (by decide) (fun c2 => ?_) (fun c2 => ?_)
    · exact absurd c2 (by decide)
    · skip
      refine lv_ldc hx hb hown (ht _ m_1389) dX12_needed_8 ?_
      have : ((-100001) : Int32).toInt = (-100001) := (by decide)
      have hP9 : va_P (dC, dI) classes (WM h g ca (u2 (u2 iv 12 19 (iv 12 19)) 12 41 (iv 12 41)) (u2 (u2 lv 12 17 (lv 12 17)) 12 18 (lv 12 18)) (u2 (u2 (u2 fa 12 39 (fa 12 39)) 12 40 (fa 12 40)) 12 50 (fa 12 50)) la) s.heap := hP
      have hD9 : va_D A (WM h g ca (u2 (u2 iv 12 19 (iv 12 19)) 12 41 (iv 12 41)) (u2 (u2 lv 12 17 (lv 12 17)) 12 18 (lv 12 18)) (u2 (u2 (u2 fa 12 39 (fa 12 39)) 12 40 (fa 12 40)) 12 50 (fa 12 50)) la) := hD
      exact W.iret (v := (-100001)) hx hb hr (fun t ht9 hW => ⟨⟨(-100001), ((u2 (u2 iv 12 19 (iv 12 19)) 12 41 (iv 12 41)), (u2 (u2 lv 12 17 (lv 12 17)) 12 18 (lv 12 18)), (u2 (u2 (u2 fa 12 39 (fa 12 39)) 12 40 (fa 12 40)) 12 50 (fa 12 50)), la), rfl, ⟨(fa 12 39), (fa 12 40), (fa 12 50), (iv 12 19), (iv 12 41), (lv 12 17), (lv 12 18), (hI.2 12 39), (hI.2 12 40), (hI.2 12 50), (hI.1 12 41), (show ((((-100001) : Int32).toInt = -100001 ∧ ¬ (0 ≤ (a).toInt ∧ (a).toInt < (iv 12 1).toInt)) ∨ (((-100001) : Int32).toInt = -100002 ∧ (0 ≤ (a).toInt ∧ (a).toInt < (iv 12 1).toInt) ∧ ¬ (1 ≤ (b).toInt ∧ (b).toInt ≤ 100)) ∨ ((0 ≤ (a).toInt ∧ (a).toInt < (iv 12 1).toInt) ∧ (1 ≤ (b).toInt ∧ (b).toInt ≤ 100) ∧ ∃ pt : Int32, FoY (iv 12 23).toInt (fa 12 24) (fa 12 25) (fa 12 26) (fa 12 27) (fa 12 28) 2 (iv 12 0).toInt pt.toInt ∧ NeR (neY (fa 12 4) (fa 12 5) (fa 12 11) (fa 12 12) (fa 12 7) (fa 12 8) (a).toInt (iv 12 0).toInt ((iv 12 3).toInt).toNat pt b) (lsP (cyP (fa 12 4) (fa 12 5) (fa 12 11) (fa 12 12) (a).toInt (iv 12 0).toInt 0) ((iv 12 3).toInt).toNat).length ((-100001) : Int32).toInt)) from Or.inl ⟨by omega, by omega⟩), ⟨by decide, by decide⟩, rfl⟩, by rw [ht9]; exact hP9, hD9⟩, hS.F ht9⟩) hS.2.2 dX12_needed_10
  · skip
    have i_12_1 : 0 ≤ (iv 12 1).toInt ∧ (iv 12 1).toInt ≤ 10 := hI.1 12 1
    have fr1 : (0 ≤ (a : Int32).toInt ∧ (a : Int32).toInt < ((iv 12 1) : Int32).toInt) := Decidable.not_not.mp fr1
    refine lv_if_eq (tgt := 11) hx hb dX12_needed_5 (by decide) (fun c3 => ?_) (fun c3 => ?_)
    · skip
      refine lv_iload_n hx hb dX12_needed_11 rfl (lv_at hl 2 rfl) ?_
      refine lv_i2l (v := (b.toInt64)) hx hb dX12_needed_12 rfl ?_
      refine lv_lconst (v := 1) hx hb dX12_needed_13 (by decide) ?_
      refine lv_ldc2 hx hb hown (ht _ m_1392) dX12_needed_14 ?_
      refine vp_callSi (W.runS (As := [.long (b.toInt64), .long 1, .long 100]) (rest := []) ⟨hx, hb, hml, hown, ht⟩ (c_X12_in l dC dI (b.toInt64) 1 100 (b.toInt) (1) (100) ((Int32.toInt_toInt64 b).trans rfl) (by decide : (1 : Int64).toInt = 1) (by decide : (100 : Int64).toInt = 100)) (kS 3 ht m_1370 m_1371 m_89 m_1372 rfl rfl hd_X12_in_v ⟨Nat.le_of_ble_eq_true rfl, Nat.le_of_ble_eq_true rfl⟩) (sR noP (hK.sub (tys' := []) [] rfl)) rfl rfl hl.1 rfl (lv_room (Nat.le_of_ble_eq_true rfl)) dX12_needed_17 ⟨Nat.le_of_ble_eq_true rfl, Nat.le_of_ble_eq_true rfl⟩) (fun r4 hr4 => ?_)
      rcases hr4 with ⟨rfl, fr4⟩ | ⟨rfl, fr4⟩
      · skip
        refine lv_if_ne (tgt := 26) hx hb dX12_needed_20 (by decide) (fun c5 => ?_) (fun c5 => ?_)
        · skip
          refine lv_aload_n hx hb dX12_needed_26 rfl (lv_at hl 0 rfl) ?_
          refine lv_iconst (v := 2) hx hb dX12_needed_27 (by decide) ?_
          refine lv_aload_n hx hb dX12_needed_28 rfl (lv_at hl 0 rfl) ?_
          have i_12_0 : 0 ≤ (iv 12 0).toInt ∧ (iv 12 0).toInt ≤ 3000 := hI.1 12 0
          refine gM_12_0 hx hb ht hown hK hP m_1139 (v := (iv 12 0)) rfl dX12_needed_29 ?_
          have hFc := free_all hD hS hA
          refine va_calli (va_runV (As := [.int 2, .int (iv 12 0)]) (rest := []) ⟨hx, hb, hml, hown, ht⟩ (c_X12_forceOf_f l dC dI s.heap.size h g ca iv lv fa la hI 2 (iv 12 0) ⟨by decide, by decide⟩ hJC hJK) (kV 2 ht m_1509 m_1511 m_55 m_89 m_1512 rfl rfl hd_X12_forceOf_v ⟨Nat.le_of_ble_eq_true rfl, Nat.le_of_ble_eq_true rfl⟩) (vW hP hK hD (rM_12 hK hP)) rfl rfl hl.1 rfl (lv_room (Nat.le_of_ble_eq_true rfl)) dX12_needed_32 ⟨Nat.le_of_ble_eq_true rfl, Nat.le_of_ble_eq_true rfl⟩) hS (fun q _ h => hFc q h) hFc (fun r6 u t H1 locs ht9 hvm hr6 hB hz1 hk1 hS => ?_)
          obtain ⟨n7, n8, n9, hn7, hn8, hn9, xr6_0, hr6, rfl⟩ := hr6
          have hn9 : 0 ≤ n9.toInt ∧ n9.toInt ≤ 8 := hn9
          obtain ⟨hP, hD⟩ := hB
          rw [ht9] at hP
          generalize H1 = H at hP hS ⊢
          have hP : va_P (dC, dI) classes (WM h g ca (u2 iv 12 41 n9) lv (u2 (u2 fa 12 39 n7) 12 40 n8) la) H := hP
          have hD : va_D A (WM h g ca (u2 iv 12 41 n9) lv (u2 (u2 fa 12 39 n7) 12 40 n8) la) := (show va_D _ (WM h g ca (u2 iv 12 41 n9) lv (u2 (u2 fa 12 39 n7) 12 40 n8) la) from hD).weaken (fun _ _ _ h => hFc _ h)
          have i_12_23 : 0 ≤ (iv 12 23).toInt ∧ (iv 12 23).toInt ≤ 8 := hI.1 12 23
          have : (2 : Int32).toInt = 2 := (by decide)
          have xr6_0 : FoY ((iv 12 23) : Int32).toInt (fa 12 24) (fa 12 25) (fa 12 26) (fa 12 27) (fa 12 28) (2 : Int32).toInt ((iv 12 0) : Int32).toInt (r6 : Int32).toInt := xr6_0
          refine lv_istore_n (lv' := [(3, .int r6), (0, .ref h), (1, .int a), (2, .int b)]) hx hb dX12_needed_35 rfl hl (by decide) rfl (fun ls hl => ?_)
          refine lv_iconst (v := 0) hx hb dX12_needed_36 (by decide) ?_
          refine lv_istore (lv' := [(4, .int 0), (3, .int r6), (0, .ref h), (1, .int a), (2, .int b)]) hx hb dX12_needed_37 hl (by decide) rfl (fun ls hl => ?_)
          refine lv_iconst (v := 0) hx hb dX12_needed_39 (by decide) ?_
          refine lv_istore (lv' := [(5, .int 0), (4, .int 0), (3, .int r6), (0, .ref h), (1, .int a), (2, .int b)]) hx hb dX12_needed_40 hl (by decide) rfl (fun ls hl => ?_)
          have i_12_3 : 0 ≤ (iv 12 3).toInt ∧ (iv 12 3).toInt ≤ 60 := hI.1 12 3
          have lp1462 : ∀ (nn1462 : Nat) (x1461_5 : Int32) (x1461_4 : Int32) (w1461_a_12_50 : Nat → Int32), 0 ≤ x1461_5.toInt ∧ x1461_5.toInt ≤ 60 → 0 ≤ x1461_4.toInt ∧ x1461_4.toInt ≤ 12 → (∀ j, inb (bA 12 50 j) (w1461_a_12_50 j)) → ((x1461_4 : Int32).toInt ≤ ((cn0 (fa 12 4) (fa 12 5) a 0 ((x1461_5 : Int32).toInt).toNat : Nat) : Int)) → (LsA (cyP (fa 12 4) (fa 12 5) (fa 12 11) (fa 12 12) (a).toInt (iv 12 0).toInt 0) ((x1461_5 : Int32).toInt).toNat (x1461_4 : Int32).toInt w1461_a_12_50) → (x1461_5 : Int32).toInt ≤ ((iv 12 3) : Int32).toInt → 60 - x1461_5.toInt < (nn1462 : Int) → ∀ (H : Heap) (locs : List Loc), ∀ (ls : Array Slot), va_P (dC, dI) classes (WM h g ca (u2 iv 12 41 n9) lv (u2 (u2 (u2 fa 12 39 n7) 12 40 n8) 12 50 w1461_a_12_50) la) H → va_D A (WM h g ca (u2 iv 12 41 n9) lv (u2 (u2 (u2 fa 12 39 n7) 12 40 n8) 12 50 w1461_a_12_50) la) → va_S A s.heap H locs → lv_has ls 7 [(5, .int x1461_5), (4, .int x1461_4), (3, .int r6), (0, .ref h), (1, .int a), (2, .int b)] → W p l e ({ frames := 3, cells := 0, slots := 0, locals := 81 } : Room) s m ([.ref h, .int a, .int b] : List Value).toArray below meth c H locs 0 0 (MQ below (va_Qi (fun r (u : SS) => ∃ (na_12_39 : Nat → Int32) (na_12_40 : Nat → Int32) (na_12_50 : Nat → Int32) (ni_12_19 : Int32) (ni_12_41 : Int32) (nl_12_17 : Int64) (nl_12_18 : Int64), (∀ j, inb (bA 12 39 j) (na_12_39 j)) ∧ (∀ j, inb (bA 12 40 j) (na_12_40 j)) ∧ (∀ j, inb (bA 12 50 j) (na_12_50 j)) ∧ inb (bI 12 41) ni_12_41 ∧ (((r.toInt = -100001 ∧ ¬ (0 ≤ a.toInt ∧ a.toInt < (iv 12 1).toInt)) ∨ (r.toInt = -100002 ∧ (0 ≤ a.toInt ∧ a.toInt < (iv 12 1).toInt) ∧ ¬ (1 ≤ b.toInt ∧ b.toInt ≤ 100)) ∨ ((0 ≤ a.toInt ∧ a.toInt < (iv 12 1).toInt) ∧ (1 ≤ b.toInt ∧ b.toInt ≤ 100) ∧ ∃ pt : Int32, FoY (iv 12 23).toInt (fa 12 24) (fa 12 25) (fa 12 26) (fa 12 27) (fa 12 28) 2 (iv 12 0).toInt pt.toInt ∧ NeR (neY (fa 12 4) (fa 12 5) (fa 12 11) (fa 12 12) (fa 12 7) (fa 12 8) a.toInt (iv 12 0).toInt ((iv 12 3).toInt).toNat pt b) (lsP (cyP (fa 12 4) (fa 12 5) (fa 12 11) (fa 12 12) a.toInt (iv 12 0).toInt 0) ((iv 12 3).toInt).toNat).length r.toInt))) ∧ ((-100002) ≤ r.toInt ∧ r.toInt ≤ 12) ∧ u = ((u2 (u2 iv 12 19 ni_12_19) 12 41 ni_12_41), (u2 (u2 lv 12 17 nl_12_17) 12 18 nl_12_18), (u2 (u2 (u2 fa 12 39 na_12_39) 12 40 na_12_40) 12 50 na_12_50), la)) (bM (dC, dI) h g ca A) A) ([.ref h, .int a, .int b] : List Value).toArray s 0 0 A) (F0 m 42 ls []) := by
            intro nn1462
            induction nn1462 with
            | zero => intro x1461_5 x1461_4 w1461_a_12_50 hx1461_5 hx1461_4 hw1461_a_12_50 hq1462_0 hq1462_1 hq1462_2 hm1462; exfalso; omega
            | succ nn1462 ih1462 =>
              intro x1461_5 x1461_4 w1461_a_12_50 hx1461_5 hx1461_4 hw1461_a_12_50 hq1462_0 hq1462_1 hq1462_2 hm1462 H locs ls hP hD hS hl
              refine lv_iload hx hb dX12_needed_42 (lv_at hl 0 rfl) ?_
              refine lv_aload_n hx hb dX12_needed_44 rfl (lv_at hl 3 rfl) ?_
              refine gM_12_3 hx hb ht hown hK hP m_1142 (v := (iv 12 3)) rfl dX12_needed_45 ?_
              refine lv_icmp_ge (tgt := 103) hx hb dX12_needed_48 (by decide) (fun c1463 => ?_) (fun c1463 => ?_)
              · have fc1463 := z_le (rfl : ((iv 12 3)).toInt = _) (rfl : (x1461_5).toInt = _) c1463
                have : (-1) ≤ ((iv 12 20) : Int32).toInt ∧ ((iv 12 20) : Int32).toInt ≤ (-1) := ⟨by omega, by omega⟩
                have : (-1) ≤ ((iv 12 21) : Int32).toInt ∧ ((iv 12 21) : Int32).toInt ≤ (-1) := ⟨by omega, by omega⟩
                have : (-1) ≤ ((iv 12 22) : Int32).toInt ∧ ((iv 12 22) : Int32).toInt ≤ (-1) := ⟨by omega, by omega⟩
                refine lv_aload_n hx hb dX12_needed_103 rfl (lv_at hl 3 rfl) ?_
                refine lv_iload_n hx hb dX12_needed_104 rfl (lv_at hl 4 rfl) ?_
                refine lv_iconst (v := 0) hx hb dX12_needed_105 (by decide) ?_
                refine lv_aload_n hx hb dX12_needed_106 rfl (lv_at hl 3 rfl) ?_
                refine gM_12_0 hx hb ht hown hK hP m_1139 (v := (iv 12 0)) rfl dX12_needed_107 ?_
                have hFc := free_all hD hS hA
                refine va_calli (va_runV (As := [.int a, .int 0, .int (iv 12 0)]) (rest := []) ⟨hx, hb, hml, hown, ht⟩ (c_X12_sumUp_s l dC dI H.size h g ca (u2 iv 12 41 n9) lv (u2 (u2 (u2 fa 12 39 n7) 12 40 n8) 12 50 w1461_a_12_50) la (IX_a (c := 12) (k := 50) (IX_a (c := 12) (k := 40) (IX_a (c := 12) (k := 39) (IX_i (c := 12) (k := 41) hI (show inb (0, 8) n9 from ⟨by omega, by omega⟩)) hn7) hn8) hw1461_a_12_50) a 0 (iv 12 0) (show (-1) ≤ ((iv 12 20) : Int32).toInt ∧ ((iv 12 20) : Int32).toInt ≤ (-1) from ⟨by omega, by omega⟩) (show (-1) ≤ ((iv 12 21) : Int32).toInt ∧ ((iv 12 21) : Int32).toInt ≤ (-1) from ⟨by omega, by omega⟩) (show (-1) ≤ ((iv 12 22) : Int32).toInt ∧ ((iv 12 22) : Int32).toInt ≤ (-1) from ⟨by omega, by omega⟩) hJR) (kV 3 ht m_1434 m_1436 m_45 m_89 m_1437 rfl rfl hd_X12_sumUp_v ⟨Nat.le_of_ble_eq_true rfl, Nat.le_of_ble_eq_true rfl⟩) (vW hP hK hD (rM_12 hK hP)) rfl rfl hl.1 rfl (lv_room (Nat.le_of_ble_eq_true rfl)) dX12_needed_110 ⟨Nat.le_of_ble_eq_true rfl, Nat.le_of_ble_eq_true rfl⟩) hS (fun q _ h => hFc q h) hFc (fun r1464 u t H1 locs ht9 hvm hr1464 hB hz1 hk1 hS => ?_)
                obtain ⟨n1465, n1466, n1467, xr1464_0, xr1464_1, xr1464_2, xr1464_3, xr1464_4, xr1464_5, xr1464_6, xr1464_7, xr1464_8, hr1464, rfl⟩ := hr1464
                obtain ⟨hP, hD⟩ := hB
                rw [ht9] at hP
                generalize H1 = H at hP hS ⊢
                have hP : va_P (dC, dI) classes (WM h g ca (u2 (u2 iv 12 41 n9) 12 19 n1465) (u2 (u2 lv 12 17 n1466) 12 18 n1467) (u2 (u2 (u2 fa 12 39 n7) 12 40 n8) 12 50 w1461_a_12_50) la) H := hP
                have hD : va_D A (WM h g ca (u2 (u2 iv 12 41 n9) 12 19 n1465) (u2 (u2 lv 12 17 n1466) 12 18 n1467) (u2 (u2 (u2 fa 12 39 n7) 12 40 n8) 12 50 w1461_a_12_50) la) := (show va_D _ (WM h g ca (u2 (u2 iv 12 41 n9) 12 19 n1465) (u2 (u2 lv 12 17 n1466) 12 18 n1467) (u2 (u2 (u2 fa 12 39 n7) 12 40 n8) 12 50 w1461_a_12_50) la) from hD).weaken (fun _ _ _ h => hFc _ h)
                have xr1464_0 : 0 ≤ (r1464 : Int32).toInt := xr1464_0
                have xr1464_1 : (r1464 : Int32).toInt ≤ 60 := xr1464_1
                have xr1464_2 : 0 ≤ (n1467 : Int64).toInt := xr1464_2
                have xr1464_3 : (n1467 : Int64).toInt ≤ 599940 := xr1464_3
                have xr1464_4 : 100 * (r1464 : Int32).toInt ≤ (n1467 : Int64).toInt := xr1464_4
                have : (0 : Int32).toInt = 0 := (by decide)
                have xr1464_5 : (n1466 : Int64).toInt = (smL (fun s : Nat => ((fa 12 4) s).toInt = (a : Int32).toInt ∧ ((fa 12 5) s).toInt = (0 : Int32).toInt ∧ ((fa 12 11) s).toInt ≤ ((iv 12 0) : Int32).toInt ∧ (((fa 12 12) s).toInt < 0 ∨ ((iv 12 0) : Int32).toInt < ((fa 12 12) s).toInt)) (fa 12 8) (((iv 12 3) : Int32).toInt).toNat).toInt := xr1464_5
                have xr1464_6 : (n1467 : Int64).toInt = (smL (fun s : Nat => ((fa 12 4) s).toInt = (a : Int32).toInt ∧ ((fa 12 5) s).toInt = (0 : Int32).toInt ∧ ((fa 12 11) s).toInt ≤ ((iv 12 0) : Int32).toInt ∧ (((fa 12 12) s).toInt < 0 ∨ ((iv 12 0) : Int32).toInt < ((fa 12 12) s).toInt)) (fa 12 7) (((iv 12 3) : Int32).toInt).toNat).toInt := xr1464_6
                have xr1464_7 : (n1465 : Int32).toInt = (smC (fun s : Nat => ((fa 12 4) s).toInt = (a : Int32).toInt ∧ ((fa 12 5) s).toInt = (0 : Int32).toInt ∧ ((fa 12 11) s).toInt ≤ ((iv 12 0) : Int32).toInt ∧ (((fa 12 12) s).toInt < 0 ∨ ((iv 12 0) : Int32).toInt < ((fa 12 12) s).toInt)) (((iv 12 3) : Int32).toInt).toNat).toInt := xr1464_7
                have xr1464_8 : (r1464 : Int32).toInt = (n1465 : Int32).toInt := xr1464_8
                have sd9 : (smL (cyP (fa 12 4) (fa 12 5) (fa 12 11) (fa 12 12) a.toInt (iv 12 0).toInt 0) (fa 12 8) ((iv 12 3).toInt).toNat).toInt = (n1466 : Int64).toInt := by have z9 := xr1464_5; rw [show (0 : Int32).toInt = 0 from by decide] at z9; exact z9.symm
                have sr9 : (smL (cyP (fa 12 4) (fa 12 5) (fa 12 11) (fa 12 12) a.toInt (iv 12 0).toInt 0) (fa 12 7) ((iv 12 3).toInt).toNat).toInt = (n1467 : Int64).toInt := by have z9 := xr1464_6; rw [show (0 : Int32).toInt = 0 from by decide] at z9; exact z9.symm
                refine lv_istore (lv' := [(5, .int r1464), (4, .int x1461_4), (3, .int r6), (0, .ref h), (1, .int a), (2, .int b)]) hx hb dX12_needed_113 hl (by decide) rfl (fun ls hl => ?_)
                refine lv_iconst (v := 2) hx hb dX12_needed_115 (by decide) ?_
                refine lv_istore (lv' := [(6, .int 2), (5, .int r1464), (4, .int x1461_4), (3, .int r6), (0, .ref h), (1, .int a), (2, .int b)]) hx hb dX12_needed_116 hl (by decide) rfl (fun ls hl => ?_)
                have lp1529 : ∀ (nn1529 : Nat) (x1528_6 : Int32), 2 ≤ x1528_6.toInt ∧ x1528_6.toInt ≤ 13 → (∀ z : Nat, 2 ≤ z → (z : Int) < (x1528_6 : Int32).toInt → ¬ enY (fun q : Nat => ((fa 12 8) ((w1461_a_12_50 q).toInt).toNat).toInt64) (fun q : Nat => ((fa 12 7) ((w1461_a_12_50 q).toInt).toNat).toInt64) ((x1461_4 : Int32).toInt).toNat (smL (cyP (fa 12 4) (fa 12 5) (fa 12 11) (fa 12 12) a.toInt (iv 12 0).toInt 0) (fa 12 8) ((iv 12 3).toInt).toNat) (smL (cyP (fa 12 4) (fa 12 5) (fa 12 11) (fa 12 12) a.toInt (iv 12 0).toInt 0) (fa 12 7) ((iv 12 3).toInt).toNat) (r6 : Int32) b z) → 2 ≤ (x1528_6 : Int32).toInt → 13 - x1528_6.toInt < (nn1529 : Int) → ∀ (H : Heap) (locs : List Loc), ∀ (ls : Array Slot), va_P (dC, dI) classes (WM h g ca (u2 (u2 iv 12 41 n9) 12 19 n1465) (u2 (u2 lv 12 17 n1466) 12 18 n1467) (u2 (u2 (u2 fa 12 39 n7) 12 40 n8) 12 50 w1461_a_12_50) la) H → va_D A (WM h g ca (u2 (u2 iv 12 41 n9) 12 19 n1465) (u2 (u2 lv 12 17 n1466) 12 18 n1467) (u2 (u2 (u2 fa 12 39 n7) 12 40 n8) 12 50 w1461_a_12_50) la) → va_S A s.heap H locs → lv_has ls 7 [(6, .int x1528_6), (5, .int r1464), (4, .int x1461_4), (3, .int r6), (0, .ref h), (1, .int a), (2, .int b)] → W p l e ({ frames := 3, cells := 0, slots := 0, locals := 81 } : Room) s m ([.ref h, .int a, .int b] : List Value).toArray below meth c H locs 0 0 (MQ below (va_Qi (fun r (u : SS) => ∃ (na_12_39 : Nat → Int32) (na_12_40 : Nat → Int32) (na_12_50 : Nat → Int32) (ni_12_19 : Int32) (ni_12_41 : Int32) (nl_12_17 : Int64) (nl_12_18 : Int64), (∀ j, inb (bA 12 39 j) (na_12_39 j)) ∧ (∀ j, inb (bA 12 40 j) (na_12_40 j)) ∧ (∀ j, inb (bA 12 50 j) (na_12_50 j)) ∧ inb (bI 12 41) ni_12_41 ∧ (((r.toInt = -100001 ∧ ¬ (0 ≤ a.toInt ∧ a.toInt < (iv 12 1).toInt)) ∨ (r.toInt = -100002 ∧ (0 ≤ a.toInt ∧ a.toInt < (iv 12 1).toInt) ∧ ¬ (1 ≤ b.toInt ∧ b.toInt ≤ 100)) ∨ ((0 ≤ a.toInt ∧ a.toInt < (iv 12 1).toInt) ∧ (1 ≤ b.toInt ∧ b.toInt ≤ 100) ∧ ∃ pt : Int32, FoY (iv 12 23).toInt (fa 12 24) (fa 12 25) (fa 12 26) (fa 12 27) (fa 12 28) 2 (iv 12 0).toInt pt.toInt ∧ NeR (neY (fa 12 4) (fa 12 5) (fa 12 11) (fa 12 12) (fa 12 7) (fa 12 8) a.toInt (iv 12 0).toInt ((iv 12 3).toInt).toNat pt b) (lsP (cyP (fa 12 4) (fa 12 5) (fa 12 11) (fa 12 12) a.toInt (iv 12 0).toInt 0) ((iv 12 3).toInt).toNat).length r.toInt))) ∧ ((-100002) ≤ r.toInt ∧ r.toInt ≤ 12) ∧ u = ((u2 (u2 iv 12 19 ni_12_19) 12 41 ni_12_41), (u2 (u2 lv 12 17 nl_12_17) 12 18 nl_12_18), (u2 (u2 (u2 fa 12 39 na_12_39) 12 40 na_12_40) 12 50 na_12_50), la)) (bM (dC, dI) h g ca A) A) ([.ref h, .int a, .int b] : List Value).toArray s 0 0 A) (F0 m 118 ls []) := by
                  intro nn1529
                  induction nn1529 with
                  | zero => intro x1528_6 hx1528_6 hq1529_0 hq1529_1 hm1529; exfalso; omega
                  | succ nn1529 ih1529 =>
                    intro x1528_6 hx1528_6 hq1529_0 hq1529_1 hm1529 H locs ls hP hD hS hl
                    refine lv_iload hx hb dX12_needed_118 (lv_at hl 0 rfl) ?_
                    refine lv_iload hx hb dX12_needed_120 (lv_at hl 2 rfl) ?_
                    refine lv_icmp_gt (tgt := 147) hx hb dX12_needed_122 (by decide) (fun c1530 => ?_) (fun c1530 => ?_)
                    · have fc1530 := z_lt (rfl : (x1461_4).toInt = _) (rfl : (x1528_6).toInt = _) c1530
                      refine lv_iconst (v := (-1)) hx hb dX12_needed_147 (by decide) ?_
                      have : ((-1) : Int32).toInt = (-1) := (by decide)
                      have hP9 : va_P (dC, dI) classes (WM h g ca (u2 (u2 iv 12 19 n1465) 12 41 n9) (u2 (u2 lv 12 17 n1466) 12 18 n1467) (u2 (u2 (u2 fa 12 39 n7) 12 40 n8) 12 50 w1461_a_12_50) la) H := hP
                      have hD9 : va_D A (WM h g ca (u2 (u2 iv 12 19 n1465) 12 41 n9) (u2 (u2 lv 12 17 n1466) 12 18 n1467) (u2 (u2 (u2 fa 12 39 n7) 12 40 n8) 12 50 w1461_a_12_50) la) := hD
                      exact W.iret (v := (-1)) hx hb hr (fun t ht9 hW => ⟨⟨(-1), ((u2 (u2 iv 12 19 n1465) 12 41 n9), (u2 (u2 lv 12 17 n1466) 12 18 n1467), (u2 (u2 (u2 fa 12 39 n7) 12 40 n8) 12 50 w1461_a_12_50), la), rfl, ⟨n7, n8, w1461_a_12_50, n1465, n9, n1466, n1467, hn7, hn8, hw1461_a_12_50, (show inb (0, 8) n9 from ⟨by omega, by omega⟩), (show ((((-1) : Int32).toInt = -100001 ∧ ¬ (0 ≤ (a).toInt ∧ (a).toInt < (iv 12 1).toInt)) ∨ (((-1) : Int32).toInt = -100002 ∧ (0 ≤ (a).toInt ∧ (a).toInt < (iv 12 1).toInt) ∧ ¬ (1 ≤ (b).toInt ∧ (b).toInt ≤ 100)) ∨ ((0 ≤ (a).toInt ∧ (a).toInt < (iv 12 1).toInt) ∧ (1 ≤ (b).toInt ∧ (b).toInt ≤ 100) ∧ ∃ pt : Int32, FoY (iv 12 23).toInt (fa 12 24) (fa 12 25) (fa 12 26) (fa 12 27) (fa 12 28) 2 (iv 12 0).toInt pt.toInt ∧ NeR (neY (fa 12 4) (fa 12 5) (fa 12 11) (fa 12 12) (fa 12 7) (fa 12 8) (a).toInt (iv 12 0).toInt ((iv 12 3).toInt).toNat pt b) (lsP (cyP (fa 12 4) (fa 12 5) (fa 12 11) (fa 12 12) (a).toInt (iv 12 0).toInt 0) ((iv 12 3).toInt).toNat).length ((-1) : Int32).toInt)) from (by
                            have hq9 := hq1462_1
                            rw [show ((x1461_5 : Int32).toInt).toNat = ((iv 12 3).toInt).toNat from by omega] at hq9
                            have hm9 := hq9.1
                            have hn9 : ((x1461_4 : Int32).toInt).toNat = (lsP (cyP (fa 12 4) (fa 12 5) (fa 12 11) (fa 12 12) a.toInt (iv 12 0).toInt 0) ((iv 12 3).toInt).toNat).length := by omega
                            refine Or.inr (Or.inr ⟨⟨by omega, by omega⟩, ⟨by omega, by omega⟩, r6, xr6_0, NeR_cg (ne_rf (by omega) hq9.2) ?_⟩)
                            rw [← hn9]
                            exact Or.inr ⟨fun z h1 h2 => hq1529_0 z h1 (by omega), by omega⟩)), ⟨by decide, by decide⟩, rfl⟩, by rw [ht9]; exact hP9, hD9⟩, hS.F ht9⟩) hS.2.2 dX12_needed_148
                    · have fc1530 := z_nlt (rfl : (x1461_4).toInt = _) (rfl : (x1528_6).toInt = _) c1530
                      refine lv_aload_n hx hb dX12_needed_125 rfl (lv_at hl 4 rfl) ?_
                      refine lv_iload hx hb dX12_needed_126 (lv_at hl 2 rfl) ?_
                      refine lv_iload hx hb dX12_needed_128 (lv_at hl 0 rfl) ?_
                      refine lv_iload_n hx hb dX12_needed_130 rfl (lv_at hl 3 rfl) ?_
                      refine lv_iload_n hx hb dX12_needed_131 rfl (lv_at hl 6 rfl) ?_
                      refine vp_callSi (W.runV (As := [.int x1461_4, .int x1528_6, .int r6, .int b]) (rest := []) ⟨hx, hb, hml, hown, ht⟩ (c_X12_isEnough_n l dC dI h g ca (u2 (u2 iv 12 41 n9) 12 19 n1465) (u2 (u2 lv 12 17 n1466) 12 18 n1467) (u2 (u2 (u2 fa 12 39 n7) 12 40 n8) 12 50 w1461_a_12_50) la (IX_a (c := 12) (k := 50) (IX_a (c := 12) (k := 40) (IX_a (c := 12) (k := 39) (IX_i (c := 12) (k := 19) (IX_i (c := 12) (k := 41) hI (show inb (0, 8) n9 from ⟨by omega, by omega⟩)) (full_i _)) hn7) hn8) hw1461_a_12_50) x1461_4 x1528_6 r6 b ⟨by omega, by omega⟩ ⟨by omega, by omega⟩) (kV 4 ht m_1602 m_1604 m_68 m_89 m_1605 rfl rfl hd_X12_isEnough_v ⟨Nat.le_of_ble_eq_true rfl, Nat.le_of_ble_eq_true rfl⟩) (vR hP hK (rM_12 hK hP)) rfl rfl hl.1 rfl (lv_room (Nat.le_of_ble_eq_true rfl)) dX12_needed_132 ⟨Nat.le_of_ble_eq_true rfl, Nat.le_of_ble_eq_true rfl⟩) (fun r1531 hr1531 => ?_)
                      obtain ⟨hr1531, xr1531_0⟩ := hr1531
                      have xr1531_0 : ∀ DD RR : Int64, DD.toInt = (n1466 : Int64).toInt → RR.toInt = (n1467 : Int64).toInt → (((r1531 : Int32).toInt = 1 ∧ enY (fun q : Nat => ((fa 12 8) ((w1461_a_12_50 q).toInt).toNat).toInt64) (fun q : Nat => ((fa 12 7) ((w1461_a_12_50 q).toInt).toNat).toInt64) ((x1461_4 : Int32).toInt).toNat DD RR (r6 : Int32) (b : Int32) ((x1528_6 : Int32).toInt).toNat) ∨ ((r1531 : Int32).toInt = 0 ∧ ¬ enY (fun q : Nat => ((fa 12 8) ((w1461_a_12_50 q).toInt).toNat).toInt64) (fun q : Nat => ((fa 12 7) ((w1461_a_12_50 q).toInt).toNat).toInt64) ((x1461_4 : Int32).toInt).toNat DD RR (r6 : Int32) (b : Int32) ((x1528_6 : Int32).toInt).toNat)) := xr1531_0
                      refine lv_if_eq (tgt := 141) hx hb dX12_needed_135 (by decide) (fun c1532 => ?_) (fun c1532 => ?_)
                      · have fc1532 := z_eq (rfl : (r1531).toInt = _) (by decide : (0 : Int32).toInt = 0) c1532
                        obtain ⟨v1533, ev1533⟩ : ∃ y : Int32, y = x1528_6 + 1 := ⟨_, rfl⟩
                        have tv1533 := z_add ev1533 rfl (by decide : (1 : Int32).toInt = 1) (by omega) (by omega)
                        refine lv_iinc (v := v1533) (lv' := [(6, .int v1533), (5, .int r1464), (4, .int x1461_4), (3, .int r6), (0, .ref h), (1, .int a), (2, .int b)]) hx hb dX12_needed_141 hl (k := 0) rfl (by rw [ev1533]; rfl) (by decide) rfl (fun ls hl => ?_)
                        refine lv_goto (tgt := 118) hx hb dX12_needed_144 (by decide) ?_
                        exact ih1529 v1533 ⟨by omega, by omega⟩ (show ∀ z : Nat, 2 ≤ z → (z : Int) < (v1533 : Int32).toInt → ¬ enY (fun q : Nat => ((fa 12 8) ((w1461_a_12_50 q).toInt).toNat).toInt64) (fun q : Nat => ((fa 12 7) ((w1461_a_12_50 q).toInt).toNat).toInt64) ((x1461_4 : Int32).toInt).toNat (smL (cyP (fa 12 4) (fa 12 5) (fa 12 11) (fa 12 12) a.toInt (iv 12 0).toInt 0) (fa 12 8) ((iv 12 3).toInt).toNat) (smL (cyP (fa 12 4) (fa 12 5) (fa 12 11) (fa 12 12) a.toInt (iv 12 0).toInt 0) (fa 12 7) ((iv 12 3).toInt).toNat) (r6 : Int32) b z from (fun z h1 h2 => by
                              by_cases hz : z = ((x1528_6 : Int32).toInt).toNat
                              · rw [hz]; exact (xr1531_0 (smL (cyP (fa 12 4) (fa 12 5) (fa 12 11) (fa 12 12) a.toInt (iv 12 0).toInt 0) (fa 12 8) ((iv 12 3).toInt).toNat) (smL (cyP (fa 12 4) (fa 12 5) (fa 12 11) (fa 12 12) a.toInt (iv 12 0).toInt 0) (fa 12 7) ((iv 12 3).toInt).toNat) sd9 sr9).elim (fun y => absurd y.1 (by omega)) (fun y => y.2)
                              · exact hq1529_0 z h1 (by omega))) (show 2 ≤ (v1533 : Int32).toInt from by omega) (by omega) _ _ ls hP hD hS (lv_sub hl [0, 1, 2, 3, 4, 5, 6] rfl)
                      · have fc1532 := z_ne (rfl : (r1531).toInt = _) (by decide : (0 : Int32).toInt = 0) c1532
                        refine lv_iload hx hb dX12_needed_138 (lv_at hl 0 rfl) ?_
                        have hP9 : va_P (dC, dI) classes (WM h g ca (u2 (u2 iv 12 19 n1465) 12 41 n9) (u2 (u2 lv 12 17 n1466) 12 18 n1467) (u2 (u2 (u2 fa 12 39 n7) 12 40 n8) 12 50 w1461_a_12_50) la) H := hP
                        have hD9 : va_D A (WM h g ca (u2 (u2 iv 12 19 n1465) 12 41 n9) (u2 (u2 lv 12 17 n1466) 12 18 n1467) (u2 (u2 (u2 fa 12 39 n7) 12 40 n8) 12 50 w1461_a_12_50) la) := hD
                        exact W.iret (v := x1528_6) hx hb hr (fun t ht9 hW => ⟨⟨x1528_6, ((u2 (u2 iv 12 19 n1465) 12 41 n9), (u2 (u2 lv 12 17 n1466) 12 18 n1467), (u2 (u2 (u2 fa 12 39 n7) 12 40 n8) 12 50 w1461_a_12_50), la), rfl, ⟨n7, n8, w1461_a_12_50, n1465, n9, n1466, n1467, hn7, hn8, hw1461_a_12_50, (show inb (0, 8) n9 from ⟨by omega, by omega⟩), (show (((x1528_6 : Int32).toInt = -100001 ∧ ¬ (0 ≤ (a).toInt ∧ (a).toInt < (iv 12 1).toInt)) ∨ ((x1528_6 : Int32).toInt = -100002 ∧ (0 ≤ (a).toInt ∧ (a).toInt < (iv 12 1).toInt) ∧ ¬ (1 ≤ (b).toInt ∧ (b).toInt ≤ 100)) ∨ ((0 ≤ (a).toInt ∧ (a).toInt < (iv 12 1).toInt) ∧ (1 ≤ (b).toInt ∧ (b).toInt ≤ 100) ∧ ∃ pt : Int32, FoY (iv 12 23).toInt (fa 12 24) (fa 12 25) (fa 12 26) (fa 12 27) (fa 12 28) 2 (iv 12 0).toInt pt.toInt ∧ NeR (neY (fa 12 4) (fa 12 5) (fa 12 11) (fa 12 12) (fa 12 7) (fa 12 8) (a).toInt (iv 12 0).toInt ((iv 12 3).toInt).toNat pt b) (lsP (cyP (fa 12 4) (fa 12 5) (fa 12 11) (fa 12 12) (a).toInt (iv 12 0).toInt 0) ((iv 12 3).toInt).toNat).length (x1528_6 : Int32).toInt)) from (by
                              have hq9 := hq1462_1
                              rw [show ((x1461_5 : Int32).toInt).toNat = ((iv 12 3).toInt).toNat from by omega] at hq9
                              have hm9 := hq9.1
                              have hn9 : ((x1461_4 : Int32).toInt).toNat = (lsP (cyP (fa 12 4) (fa 12 5) (fa 12 11) (fa 12 12) a.toInt (iv 12 0).toInt 0) ((iv 12 3).toInt).toNat).length := by omega
                              refine Or.inr (Or.inr ⟨⟨by omega, by omega⟩, ⟨by omega, by omega⟩, r6, xr6_0, NeR_cg (ne_rf (by omega) hq9.2) ?_⟩)
                              rw [← hn9]
                              exact Or.inl ⟨((x1528_6 : Int32).toInt).toNat, by omega, by omega, (xr1531_0 (smL (cyP (fa 12 4) (fa 12 5) (fa 12 11) (fa 12 12) a.toInt (iv 12 0).toInt 0) (fa 12 8) ((iv 12 3).toInt).toNat) (smL (cyP (fa 12 4) (fa 12 5) (fa 12 11) (fa 12 12) a.toInt (iv 12 0).toInt 0) (fa 12 7) ((iv 12 3).toInt).toNat) sd9 sr9).elim (fun y => y.2) (fun y => absurd y.1 (by omega)), fun z h1 h2 => hq1529_0 z h1 (by omega), by omega⟩)), ⟨by omega, by omega⟩, rfl⟩, by rw [ht9]; exact hP9, hD9⟩, hS.F ht9⟩) hS.2.2 dX12_needed_140
                exact lp1529 12 2 ⟨by decide, by decide⟩ (show ∀ z : Nat, 2 ≤ z → (z : Int) < (2 : Int32).toInt → ¬ enY (fun q : Nat => ((fa 12 8) ((w1461_a_12_50 q).toInt).toNat).toInt64) (fun q : Nat => ((fa 12 7) ((w1461_a_12_50 q).toInt).toNat).toInt64) ((x1461_4 : Int32).toInt).toNat (smL (cyP (fa 12 4) (fa 12 5) (fa 12 11) (fa 12 12) a.toInt (iv 12 0).toInt 0) (fa 12 8) ((iv 12 3).toInt).toNat) (smL (cyP (fa 12 4) (fa 12 5) (fa 12 11) (fa 12 12) a.toInt (iv 12 0).toInt 0) (fa 12 7) ((iv 12 3).toInt).toNat) (r6 : Int32) b z from (fun z h1 h2 => absurd h2 (by omega))) (show 2 ≤ (2 : Int32).toInt from by omega) (by first | decide | omega) _ _ ls hP hD hS (lv_sub hl [0, 1, 2, 3, 4, 5, 6] rfl)
              · have fc1463 := z_nle (rfl : ((iv 12 3)).toInt = _) (rfl : (x1461_5).toInt = _) c1463
                refine lv_aload_n hx hb dX12_needed_51 rfl (lv_at hl 3 rfl) ?_
                refine gM_12_4 hx hb ht hown hK hP m_1143 dX12_needed_52 ?_
                refine lv_iload hx hb dX12_needed_55 (lv_at hl 0 rfl) ?_
                refine lM_12_4 hx hb hK hP (f := (fa 12 4)) rfl (vp_in_iff.mpr ⟨by omega, by omega⟩) dX12_needed_57 ?_
                refine lv_topi (fun v1534 ev1534 => ?_)
                refine lv_iload_n hx hb dX12_needed_58 rfl (lv_at hl 4 rfl) ?_
                refine lv_icmp_ne (tgt := 97) hx hb dX12_needed_59 (by decide) (fun c1535 => ?_) (fun c1535 => ?_)
                · have fc1535 := z_ne (rfl : (v1534).toInt = _) (rfl : (a).toInt = _) c1535
                  obtain ⟨v1536, ev1536⟩ : ∃ y : Int32, y = x1461_5 + 1 := ⟨_, rfl⟩
                  have tv1536 := z_add ev1536 rfl (by decide : (1 : Int32).toInt = 1) (by omega) (by omega)
                  refine lv_iinc (v := v1536) (lv' := [(5, .int v1536), (4, .int x1461_4), (3, .int r6), (0, .ref h), (1, .int a), (2, .int b)]) hx hb dX12_needed_97 hl (k := 0) rfl (by rw [ev1536]; rfl) (by decide) rfl (fun ls hl => ?_)
                  refine lv_goto (tgt := 42) hx hb dX12_needed_100 (by decide) ?_
                  exact ih1462 v1536 x1461_4 w1461_a_12_50 ⟨by omega, by omega⟩ ⟨by omega, by omega⟩ hw1461_a_12_50 (show (x1461_4 : Int32).toInt ≤ ((cn0 (fa 12 4) (fa 12 5) a 0 ((v1536 : Int32).toInt).toNat : Nat) : Int) from (by have hc := cn0_le (ob := fa 12 4) (ol := fa 12 5) (b := a) (l := 0) (s := x1461_5) (s' := v1536) (by omega) (by omega); have hq9 := hq1462_0; omega)) (show LsA (cyP (fa 12 4) (fa 12 5) (fa 12 11) (fa 12 12) (a).toInt (iv 12 0).toInt 0) ((v1536 : Int32).toInt).toNat (x1461_4 : Int32).toInt w1461_a_12_50 from (by
                        have := congrArg Int32.toInt (show v1534 = fa 12 4 ((x1461_5 : Int32).toInt).toNat from ev1534)
                        have hs9 : ((v1536 : Int32).toInt).toNat = ((x1461_5 : Int32).toInt).toNat + 1 := by omega
                        have hc : ¬ ((fa 12 4 ((x1461_5 : Int32).toInt).toNat).toInt = a.toInt ∧ (fa 12 5 ((x1461_5 : Int32).toInt).toNat).toInt = 0 ∧ (fa 12 11 ((x1461_5 : Int32).toInt).toNat).toInt ≤ (iv 12 0).toInt ∧ ((fa 12 12 ((x1461_5 : Int32).toInt).toNat).toInt < 0 ∨ (iv 12 0).toInt < (fa 12 12 ((x1461_5 : Int32).toInt).toNat).toInt)) := by omega
                        exact LsA_n hs9 hq1462_1 hc rfl (fun j => rfl))) (show (v1536 : Int32).toInt ≤ ((iv 12 3) : Int32).toInt from by omega) (by omega) _ _ ls hP hD hS (lv_sub hl [0, 1, 2, 3, 4, 5] rfl)
                · have fc1535 := z_eq (rfl : (v1534).toInt = _) (rfl : (a).toInt = _) c1535
                  refine lv_aload_n hx hb dX12_needed_62 rfl (lv_at hl 3 rfl) ?_
                  refine gM_12_5 hx hb ht hown hK hP m_1144 dX12_needed_63 ?_
                  refine lv_iload hx hb dX12_needed_66 (lv_at hl 0 rfl) ?_
                  refine lM_12_5 hx hb hK hP (f := (fa 12 5)) rfl (vp_in_iff.mpr ⟨by omega, by omega⟩) dX12_needed_68 ?_
                  refine lv_topi (fun v1537 ev1537 => ?_)
                  refine lv_if_ne (tgt := 97) hx hb dX12_needed_69 (by decide) (fun c1538 => ?_) (fun c1538 => ?_)
                  · have fc1538 := z_ne (rfl : (v1537).toInt = _) (by decide : (0 : Int32).toInt = 0) c1538
                    obtain ⟨v1539, ev1539⟩ : ∃ y : Int32, y = x1461_5 + 1 := ⟨_, rfl⟩
                    have tv1539 := z_add ev1539 rfl (by decide : (1 : Int32).toInt = 1) (by omega) (by omega)
                    refine lv_iinc (v := v1539) (lv' := [(5, .int v1539), (4, .int x1461_4), (3, .int r6), (0, .ref h), (1, .int a), (2, .int b)]) hx hb dX12_needed_97 hl (k := 0) rfl (by rw [ev1539]; rfl) (by decide) rfl (fun ls hl => ?_)
                    refine lv_goto (tgt := 42) hx hb dX12_needed_100 (by decide) ?_
                    exact ih1462 v1539 x1461_4 w1461_a_12_50 ⟨by omega, by omega⟩ ⟨by omega, by omega⟩ hw1461_a_12_50 (show (x1461_4 : Int32).toInt ≤ ((cn0 (fa 12 4) (fa 12 5) a 0 ((v1539 : Int32).toInt).toNat : Nat) : Int) from (by have hc := cn0_le (ob := fa 12 4) (ol := fa 12 5) (b := a) (l := 0) (s := x1461_5) (s' := v1539) (by omega) (by omega); have hq9 := hq1462_0; omega)) (show LsA (cyP (fa 12 4) (fa 12 5) (fa 12 11) (fa 12 12) (a).toInt (iv 12 0).toInt 0) ((v1539 : Int32).toInt).toNat (x1461_4 : Int32).toInt w1461_a_12_50 from (by
                          have := congrArg Int32.toInt (show v1534 = fa 12 4 ((x1461_5 : Int32).toInt).toNat from ev1534)
                          have := congrArg Int32.toInt (show v1537 = fa 12 5 ((x1461_5 : Int32).toInt).toNat from ev1537)
                          have hs9 : ((v1539 : Int32).toInt).toNat = ((x1461_5 : Int32).toInt).toNat + 1 := by omega
                          have hc : ¬ ((fa 12 4 ((x1461_5 : Int32).toInt).toNat).toInt = a.toInt ∧ (fa 12 5 ((x1461_5 : Int32).toInt).toNat).toInt = 0 ∧ (fa 12 11 ((x1461_5 : Int32).toInt).toNat).toInt ≤ (iv 12 0).toInt ∧ ((fa 12 12 ((x1461_5 : Int32).toInt).toNat).toInt < 0 ∨ (iv 12 0).toInt < (fa 12 12 ((x1461_5 : Int32).toInt).toNat).toInt)) := by omega
                          exact LsA_n hs9 hq1462_1 hc rfl (fun j => rfl))) (show (v1539 : Int32).toInt ≤ ((iv 12 3) : Int32).toInt from by omega) (by omega) _ _ ls hP hD hS (lv_sub hl [0, 1, 2, 3, 4, 5] rfl)
                  · have fc1538 := z_eq (rfl : (v1537).toInt = _) (by decide : (0 : Int32).toInt = 0) c1538
                    refine lv_aload_n hx hb dX12_needed_72 rfl (lv_at hl 3 rfl) ?_
                    refine lv_iload hx hb dX12_needed_73 (lv_at hl 0 rfl) ?_
                    refine lv_aload_n hx hb dX12_needed_75 rfl (lv_at hl 3 rfl) ?_
                    refine gM_12_0 hx hb ht hown hK hP m_1139 (v := (iv 12 0)) rfl dX12_needed_76 ?_
                    refine vp_callSi (W.runV (As := [.int x1461_5, .int (iv 12 0)]) (rest := []) ⟨hx, hb, hml, hown, ht⟩ (c_X12_isThere_x l dC dI h g ca (u2 iv 12 41 n9) lv (u2 (u2 (u2 fa 12 39 n7) 12 40 n8) 12 50 w1461_a_12_50) la (IX_a (c := 12) (k := 50) (IX_a (c := 12) (k := 40) (IX_a (c := 12) (k := 39) (IX_i (c := 12) (k := 41) hI (show inb (0, 8) n9 from ⟨by omega, by omega⟩)) hn7) hn8) hw1461_a_12_50) x1461_5 (iv 12 0) ⟨by omega, by omega⟩) (kV 2 ht m_1438 m_1440 m_46 m_89 m_1441 rfl rfl hd_X12_isThere_v ⟨Nat.le_of_ble_eq_true rfl, Nat.le_of_ble_eq_true rfl⟩) (vR hP hK (rM_12 hK hP)) rfl rfl hl.1 rfl (lv_room (Nat.le_of_ble_eq_true rfl)) dX12_needed_79 ⟨Nat.le_of_ble_eq_true rfl, Nat.le_of_ble_eq_true rfl⟩) (fun r1540 hr1540 => ?_)
                    obtain ⟨hr1540, xr1540_0⟩ := hr1540
                    have xr1540_0 : (((r1540 : Int32).toInt = 1 ∧ ((fa 12 11) (x1461_5 : Int32).toNatClampNeg).toInt ≤ ((iv 12 0) : Int32).toInt ∧ (((fa 12 12) (x1461_5 : Int32).toNatClampNeg).toInt < 0 ∨ ((iv 12 0) : Int32).toInt < ((fa 12 12) (x1461_5 : Int32).toNatClampNeg).toInt)) ∨ ((r1540 : Int32).toInt = 0 ∧ ¬ (((fa 12 11) (x1461_5 : Int32).toNatClampNeg).toInt ≤ ((iv 12 0) : Int32).toInt ∧ (((fa 12 12) (x1461_5 : Int32).toNatClampNeg).toInt < 0 ∨ ((iv 12 0) : Int32).toInt < ((fa 12 12) (x1461_5 : Int32).toNatClampNeg).toInt)))) := xr1540_0
                    refine lv_if_eq (tgt := 97) hx hb dX12_needed_82 (by decide) (fun c1541 => ?_) (fun c1541 => ?_)
                    · have fc1541 := z_eq (rfl : (r1540).toInt = _) (by decide : (0 : Int32).toInt = 0) c1541
                      obtain ⟨v1542, ev1542⟩ : ∃ y : Int32, y = x1461_5 + 1 := ⟨_, rfl⟩
                      have tv1542 := z_add ev1542 rfl (by decide : (1 : Int32).toInt = 1) (by omega) (by omega)
                      refine lv_iinc (v := v1542) (lv' := [(5, .int v1542), (4, .int x1461_4), (3, .int r6), (0, .ref h), (1, .int a), (2, .int b)]) hx hb dX12_needed_97 hl (k := 0) rfl (by rw [ev1542]; rfl) (by decide) rfl (fun ls hl => ?_)
                      refine lv_goto (tgt := 42) hx hb dX12_needed_100 (by decide) ?_
                      exact ih1462 v1542 x1461_4 w1461_a_12_50 ⟨by omega, by omega⟩ ⟨by omega, by omega⟩ hw1461_a_12_50 (show (x1461_4 : Int32).toInt ≤ ((cn0 (fa 12 4) (fa 12 5) a 0 ((v1542 : Int32).toInt).toNat : Nat) : Int) from (by have hc := cn0_le (ob := fa 12 4) (ol := fa 12 5) (b := a) (l := 0) (s := x1461_5) (s' := v1542) (by omega) (by omega); have hq9 := hq1462_0; omega)) (show LsA (cyP (fa 12 4) (fa 12 5) (fa 12 11) (fa 12 12) (a).toInt (iv 12 0).toInt 0) ((v1542 : Int32).toInt).toNat (x1461_4 : Int32).toInt w1461_a_12_50 from (by
                            have := congrArg Int32.toInt (show v1534 = fa 12 4 ((x1461_5 : Int32).toInt).toNat from ev1534)
                            have := congrArg Int32.toInt (show v1537 = fa 12 5 ((x1461_5 : Int32).toInt).toNat from ev1537)
                            have y9 : ((r1540 : Int32).toInt = 1 ∧ (fa 12 11 ((x1461_5 : Int32).toInt).toNat).toInt ≤ ((iv 12 0) : Int32).toInt ∧ ((fa 12 12 ((x1461_5 : Int32).toInt).toNat).toInt < 0 ∨ ((iv 12 0) : Int32).toInt < (fa 12 12 ((x1461_5 : Int32).toInt).toNat).toInt)) ∨ ((r1540 : Int32).toInt = 0 ∧ ¬ ((fa 12 11 ((x1461_5 : Int32).toInt).toNat).toInt ≤ ((iv 12 0) : Int32).toInt ∧ ((fa 12 12 ((x1461_5 : Int32).toInt).toNat).toInt < 0 ∨ ((iv 12 0) : Int32).toInt < (fa 12 12 ((x1461_5 : Int32).toInt).toNat).toInt))) := xr1540_0
                            have hs9 : ((v1542 : Int32).toInt).toNat = ((x1461_5 : Int32).toInt).toNat + 1 := by omega
                            have hc : ¬ ((fa 12 4 ((x1461_5 : Int32).toInt).toNat).toInt = a.toInt ∧ (fa 12 5 ((x1461_5 : Int32).toInt).toNat).toInt = 0 ∧ (fa 12 11 ((x1461_5 : Int32).toInt).toNat).toInt ≤ (iv 12 0).toInt ∧ ((fa 12 12 ((x1461_5 : Int32).toInt).toNat).toInt < 0 ∨ (iv 12 0).toInt < (fa 12 12 ((x1461_5 : Int32).toInt).toNat).toInt)) := by omega
                            exact LsA_n hs9 hq1462_1 hc rfl (fun j => rfl))) (show (v1542 : Int32).toInt ≤ ((iv 12 3) : Int32).toInt from by omega) (by omega) _ _ ls hP hD hS (lv_sub hl [0, 1, 2, 3, 4, 5] rfl)
                    · have fc1541 := z_ne (rfl : (r1540).toInt = _) (by decide : (0 : Int32).toInt = 0) c1541
                      refine lv_aload_n hx hb dX12_needed_85 rfl (lv_at hl 3 rfl) ?_
                      refine gM_12_50 hx hb ht hown hK hP m_1189 dX12_needed_86 ?_
                      refine lv_iload hx hb dX12_needed_89 (lv_at hl 1 rfl) ?_
                      refine lv_iload hx hb dX12_needed_91 (lv_at hl 0 rfl) ?_
                      have hc9 := cn0_mono (ob := fa 12 4) (ol := fa 12 5) (b := a) (l := 0) (m := (x1461_5 : Int32).toInt.toNat + 1) (iv 12 3).toInt.toNat (by omega)
                      have hd9 := hJN a 0
                      have he9 : cn0 (fa 12 4) (fa 12 5) a 0 ((x1461_5 : Int32).toInt.toNat + 1) = cn0 (fa 12 4) (fa 12 5) a 0 (x1461_5 : Int32).toInt.toNat + 1 := by
                        have hx8 := cn0_step (ob := fa 12 4) (ol := fa 12 5) (b := a) (l := 0) (s := x1461_5) (s' := x1461_5 + 1) (z_add rfl rfl (by decide : (1 : Int32).toInt = 1) (by omega) (by omega)) (by omega) ev1534 ev1537
                        have hz : (0 : Int32).toInt = 0 := by decide
                        have hz2 : ((x1461_5 : Int32) + 1).toInt = (x1461_5 : Int32).toInt + 1 := z_add rfl rfl (by decide : (1 : Int32).toInt = 1) (by omega) (by omega)
                        have hz3 : ((x1461_5 : Int32) + 1).toInt.toNat = (x1461_5 : Int32).toInt.toNat + 1 := by omega
                        rw [hz3, if_pos ⟨by omega, by omega⟩] at hx8
                        exact hx8
                      have : 0 ≤ (x1461_4 : Int32).toInt ∧ (x1461_4 : Int32).toInt ≤ 11 := ⟨by omega, by omega⟩
                      refine tM_12_50 hx hb hK hP hD hS (f0 := w1461_a_12_50) rfl (i := x1461_4) (x := x1461_5) (vp_in_iff.mpr ⟨by omega, by omega⟩) dX12_needed_93 (fun f1543 ef1543 H locs hP hD hS => ?_)
                      have hf1543 : ∀ j, inb (bA 12 50 j) (f1543 j) := by rw [ef1543]; exact upd_b (b := bA 12 50) hw1461_a_12_50 (show inb (0, 59) x1461_5 from ⟨by omega, by omega⟩)
                      have hP : va_P (dC, dI) classes (WM h g ca (u2 iv 12 41 n9) lv (u2 (u2 (u2 fa 12 39 n7) 12 40 n8) 12 50 f1543) la) H := hP
                      have hD : va_D A (WM h g ca (u2 iv 12 41 n9) lv (u2 (u2 (u2 fa 12 39 n7) 12 40 n8) 12 50 f1543) la) := hD
                      obtain ⟨v1544, ev1544⟩ : ∃ y : Int32, y = x1461_4 + 1 := ⟨_, rfl⟩
                      have tv1544 := z_add ev1544 rfl (by decide : (1 : Int32).toInt = 1) (by omega) (by omega)
                      refine lv_iinc (v := v1544) (lv' := [(4, .int v1544), (5, .int x1461_5), (3, .int r6), (0, .ref h), (1, .int a), (2, .int b)]) hx hb dX12_needed_94 hl (k := 1) rfl (by rw [ev1544]; rfl) (by decide) rfl (fun ls hl => ?_)
                      obtain ⟨v1545, ev1545⟩ : ∃ y : Int32, y = x1461_5 + 1 := ⟨_, rfl⟩
                      have tv1545 := z_add ev1545 rfl (by decide : (1 : Int32).toInt = 1) (by omega) (by omega)
                      refine lv_iinc (v := v1545) (lv' := [(5, .int v1545), (4, .int v1544), (3, .int r6), (0, .ref h), (1, .int a), (2, .int b)]) hx hb dX12_needed_97 hl (k := 1) rfl (by rw [ev1545]; rfl) (by decide) rfl (fun ls hl => ?_)
                      refine lv_goto (tgt := 42) hx hb dX12_needed_100 (by decide) ?_
                      exact ih1462 v1545 v1544 f1543 ⟨by omega, by omega⟩ ⟨by omega, by omega⟩ hf1543 (show (v1544 : Int32).toInt ≤ ((cn0 (fa 12 4) (fa 12 5) a 0 ((v1545 : Int32).toInt).toNat : Nat) : Int) from (by have hf9 : (v1545 : Int32).toInt.toNat = (x1461_5 : Int32).toInt.toNat + 1 := (by omega); rw [hf9, he9]; have hq9 := hq1462_0; omega)) (show LsA (cyP (fa 12 4) (fa 12 5) (fa 12 11) (fa 12 12) (a).toInt (iv 12 0).toInt 0) ((v1545 : Int32).toInt).toNat (v1544 : Int32).toInt f1543 from (by
                            have := congrArg Int32.toInt (show v1534 = fa 12 4 ((x1461_5 : Int32).toInt).toNat from ev1534)
                            have := congrArg Int32.toInt (show v1537 = fa 12 5 ((x1461_5 : Int32).toInt).toNat from ev1537)
                            have y9 : ((r1540 : Int32).toInt = 1 ∧ (fa 12 11 ((x1461_5 : Int32).toInt).toNat).toInt ≤ ((iv 12 0) : Int32).toInt ∧ ((fa 12 12 ((x1461_5 : Int32).toInt).toNat).toInt < 0 ∨ ((iv 12 0) : Int32).toInt < (fa 12 12 ((x1461_5 : Int32).toInt).toNat).toInt)) ∨ ((r1540 : Int32).toInt = 0 ∧ ¬ ((fa 12 11 ((x1461_5 : Int32).toInt).toNat).toInt ≤ ((iv 12 0) : Int32).toInt ∧ ((fa 12 12 ((x1461_5 : Int32).toInt).toNat).toInt < 0 ∨ ((iv 12 0) : Int32).toInt < (fa 12 12 ((x1461_5 : Int32).toInt).toNat).toInt))) := xr1540_0
                            have hs9 : ((v1545 : Int32).toInt).toNat = ((x1461_5 : Int32).toInt).toNat + 1 := by omega
                            have hc : (fa 12 4 ((x1461_5 : Int32).toInt).toNat).toInt = a.toInt ∧ (fa 12 5 ((x1461_5 : Int32).toInt).toNat).toInt = 0 ∧ (fa 12 11 ((x1461_5 : Int32).toInt).toNat).toInt ≤ (iv 12 0).toInt ∧ ((fa 12 12 ((x1461_5 : Int32).toInt).toNat).toInt < 0 ∨ (iv 12 0).toInt < (fa 12 12 ((x1461_5 : Int32).toInt).toNat).toInt) := ⟨by omega, by omega, by omega, by omega⟩
                            have hx9 : f1543 ((x1461_4 : Int32).toInt).toNat = x1461_5 := by rw [ef1543]; exact upd_eq
                            exact LsA_y hs9 hq1462_1 hc (by omega) ((congrArg Int32.toInt hx9).trans (by omega)) (fun j hj => by rw [ef1543, upd_ne (show j ≠ (x1461_4 : Int32).toNatClampNeg from hj)]))) (show (v1545 : Int32).toInt ≤ ((iv 12 3) : Int32).toInt from by omega) (by omega) _ _ ls hP hD hS (lv_sub hl [0, 1, 2, 3, 4, 5] rfl)
          have : (0 : Int32).toInt = 0 := (by decide)
          have i_12_3 : 0 ≤ (iv 12 3).toInt ∧ (iv 12 3).toInt ≤ 60 := hI.1 12 3
          exact lp1462 61 0 0 (fa 12 50) ⟨by decide, by decide⟩ ⟨by decide, by decide⟩ (hI.2 12 50) (show (0 : Int32).toInt ≤ ((cn0 (fa 12 4) (fa 12 5) a 0 ((0 : Int32).toInt).toNat : Nat) : Int) from by show _ ≤ ((0 : Nat) : Int); omega) (show LsA (cyP (fa 12 4) (fa 12 5) (fa 12 11) (fa 12 12) (a).toInt (iv 12 0).toInt 0) ((0 : Int32).toInt).toNat (0 : Int32).toInt (fa 12 50) from (by have hz : ((0 : Int32).toInt).toNat = 0 := (by decide); rw [hz]; exact LsA_0 (by decide))) (show (0 : Int32).toInt ≤ ((iv 12 3) : Int32).toInt from by omega) (by first | decide | omega) _ _ ls hP hD hS (lv_sub hl [0, 1, 2, 3, 4, 5] rfl)
        · exact absurd c5 (by decide)
      · skip
        refine lv_if_ne (tgt := 26) hx hb dX12_needed_20 (by decide) (fun c1546 => ?_) (fun c1546 => ?_)
        · exact absurd rfl c1546
        · skip
          refine lv_ldc hx hb hown (ht _ m_1373) dX12_needed_23 ?_
          have : ((-100002) : Int32).toInt = (-100002) := (by decide)
          have hP9 : va_P (dC, dI) classes (WM h g ca (u2 (u2 iv 12 19 (iv 12 19)) 12 41 (iv 12 41)) (u2 (u2 lv 12 17 (lv 12 17)) 12 18 (lv 12 18)) (u2 (u2 (u2 fa 12 39 (fa 12 39)) 12 40 (fa 12 40)) 12 50 (fa 12 50)) la) s.heap := hP
          have hD9 : va_D A (WM h g ca (u2 (u2 iv 12 19 (iv 12 19)) 12 41 (iv 12 41)) (u2 (u2 lv 12 17 (lv 12 17)) 12 18 (lv 12 18)) (u2 (u2 (u2 fa 12 39 (fa 12 39)) 12 40 (fa 12 40)) 12 50 (fa 12 50)) la) := hD
          exact W.iret (v := (-100002)) hx hb hr (fun t ht9 hW => ⟨⟨(-100002), ((u2 (u2 iv 12 19 (iv 12 19)) 12 41 (iv 12 41)), (u2 (u2 lv 12 17 (lv 12 17)) 12 18 (lv 12 18)), (u2 (u2 (u2 fa 12 39 (fa 12 39)) 12 40 (fa 12 40)) 12 50 (fa 12 50)), la), rfl, ⟨(fa 12 39), (fa 12 40), (fa 12 50), (iv 12 19), (iv 12 41), (lv 12 17), (lv 12 18), (hI.2 12 39), (hI.2 12 40), (hI.2 12 50), (hI.1 12 41), (show ((((-100002) : Int32).toInt = -100001 ∧ ¬ (0 ≤ (a).toInt ∧ (a).toInt < (iv 12 1).toInt)) ∨ (((-100002) : Int32).toInt = -100002 ∧ (0 ≤ (a).toInt ∧ (a).toInt < (iv 12 1).toInt) ∧ ¬ (1 ≤ (b).toInt ∧ (b).toInt ≤ 100)) ∨ ((0 ≤ (a).toInt ∧ (a).toInt < (iv 12 1).toInt) ∧ (1 ≤ (b).toInt ∧ (b).toInt ≤ 100) ∧ ∃ pt : Int32, FoY (iv 12 23).toInt (fa 12 24) (fa 12 25) (fa 12 26) (fa 12 27) (fa 12 28) 2 (iv 12 0).toInt pt.toInt ∧ NeR (neY (fa 12 4) (fa 12 5) (fa 12 11) (fa 12 12) (fa 12 7) (fa 12 8) (a).toInt (iv 12 0).toInt ((iv 12 3).toInt).toNat pt b) (lsP (cyP (fa 12 4) (fa 12 5) (fa 12 11) (fa 12 12) (a).toInt (iv 12 0).toInt 0) ((iv 12 3).toInt).toNat).length ((-100002) : Int32).toInt)) from Or.inr (Or.inl ⟨by omega, ⟨by omega, by omega⟩, by omega⟩)), ⟨by decide, by decide⟩, rfl⟩, by rw [ht9]; exact hP9, hD9⟩, hS.F ht9⟩) hS.2.2 dX12_needed_25
    · exact absurd rfl c3
