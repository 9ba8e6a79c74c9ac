/-! ===== na2 ===== -/
set_option maxHeartbeats 4000000 in
set_option maxRecDepth 100000 in
/-- X12_named -/
theorem c_X12_named_f (l : Launch) (dC : Nat → ClassId) (dI : Nat → Nat → Nat) (sz : Nat) (h : Nat) (g : Nat → Nat → Nat) (ca : Nat → Nat → ClassId) (iv : Nat → Nat → Int32) (lv : Nat → Nat → Int64) (fa : Nat → Nat → Nat → Int32) (la : Nat → Nat → Nat → Int64) (hI : IX iv fa) (a : Int32) (b : Int32) (hJC : JCf (iv 12 23).toInt (fa 12 25) (fa 12 26) (fa 12 27) (fa 12 28)) (hJK : ∀ k j : Nat, (k : Int) < (iv 12 23).toInt → 12 * k ≤ j → (j : Int) < 12 * (k : Int) + (fa 12 25 k).toInt → (fa 12 26 j).toInt = 3 → 0 ≤ (fa 12 28 j).toInt ∧ (fa 12 28 j).toInt < (k : Int)) (hJV : ∀ j : Nat, 0 ≤ (fa 12 52 j).toInt ∧ (fa 12 52 j).toInt ≤ 999) : Met l yX12_named (wc yX12_named cX12_named 10 (some .int)) ({ frames := 2, cells := 0, slots := 0, locals := 46 } : Room) (pW (dC, dI) classes (WM h g ca iv lv fa la) (TM ca) sz [.ref h, .int a, .int b]) (va_Qi (fun r (u : SS) => ∃ (na_12_39 : Nat → Int32) (na_12_40 : Nat → Int32) (ni_12_41 : Int32), (∀ j, inb (bA 12 39 j) (na_12_39 j)) ∧ (∀ j, inb (bA 12 40 j) (na_12_40 j)) ∧ inb (bI 12 41) ni_12_41 ∧ (((r.toInt = -100001 ∧ ¬ (0 ≤ a.toInt ∧ a.toInt < (iv 12 1).toInt)) ∨ (r.toInt = -100002 ∧ (0 ≤ a.toInt ∧ a.toInt < (iv 12 1).toInt) ∧ ¬ (0 ≤ b.toInt ∧ b.toInt ≤ 3000)) ∨ ((0 ≤ a.toInt ∧ a.toInt < (iv 12 1).toInt) ∧ (0 ≤ b.toInt ∧ b.toInt ≤ 3000) ∧ ((fa 12 51) (a.toInt).toNat).toInt = 0 ∧ r.toInt = -1) ∨ ((0 ≤ a.toInt ∧ a.toInt < (iv 12 1).toInt) ∧ (0 ≤ b.toInt ∧ b.toInt ≤ 3000) ∧ 0 < ((fa 12 51) (a.toInt).toNat).toInt ∧ ∃ S : Int32, S.toInt = sI (fun k : Nat => 2 * ((fa 12 52) (12 * (a.toInt).toNat + k)).toInt) (((fa 12 51) (a.toInt).toNat).toInt).toNat ∧ NaY (iv 12 23).toInt (fa 12 24) (fa 12 25) (fa 12 26) (fa 12 28) (fa 12 29) S ((fa 12 51) (a.toInt).toNat) b.toInt r.toInt))) ∧ ((-100002) ≤ r.toInt ∧ r.toInt ≤ 767) ∧ u = ((u2 iv 12 41 ni_12_41), lv, (u2 (u2 fa 12 39 na_12_39) 12 40 na_12_40), la)) (bM (dC, dI) h g ca (va_A (WM h g ca iv lv fa la) sz)) (va_A (WM h g ca iv lv fa la) sz)) 0 0 (va_A (WM h g ca iv lv fa la) sz) := by
  refine Met.ofW (cc := cX12_named) (maxL := 10) (ret := (some .int)) (by decide) rfl ?_
  intro p e s m args below meth c s₁ B hml hv
  obtain ⟨rfl, hsz, hP, hK, hD0⟩ := hv
  have hx := B.exec
  have hb := B.bytes
  have hr := B.returns
  have ht := tb_tl (atoms_spec (ws := wc yX12_named cX12_named 10 (some .int)) B.pre)
  have hown : s.vm.findClass RX12 = some m.cls := findClass_of_methodNamed B.named
  have hlocks := B.notSynchronized
  subst hsz
  have hD := hD0.self (sz := s.heap.size)
  generalize hAe : va_A (WM h g ca iv lv fa la) s.heap.size = A at hD ⊢
  have hA : ∀ q : Nat, s.heap.size ≤ q → A q := fun q h => by rw [← hAe]; exact Or.inr h
  have hS : va_S A s.heap s.heap [] := va_S.rf
  have hl := lv_entry [.ref h, .int a, .int b] (n := 10) (Nat.le_of_ble_eq_true rfl)
  rw [lg_entry_eq]
  generalize (lg_sl [.ref h, .int a, .int b] ++ List.replicate (10 - (lg_sl [.ref h, .int a, .int b]).length) Slot.unset).toArray = ls at hl ⊢
  have hl : lv_has ls 10 [(0, .ref h), (1, .int a), (2, .int b)] := hl
  refine lv_aload_n hx hb dX12_named_0 rfl (lv_at hl 0 rfl) ?_
  refine lv_iload_n hx hb dX12_named_1 rfl (lv_at hl 1 rfl) ?_
  refine vp_callSi (W.runV (As := [.int a]) (rest := []) ⟨hx, hb, hml, hown, ht⟩ (c_X12_noBale l dC dI h g ca iv lv fa la hI a) (kV 1 ht m_1385 m_1387 m_42 m_89 m_1388 rfl rfl hd_X12_noBale_v ⟨Nat.le_of_ble_eq_true rfl, Nat.le_of_ble_eq_true rfl⟩) (vR hP hK (rM_12 hK hP)) rfl rfl hl.1 rfl (lv_room (Nat.le_of_ble_eq_true rfl)) dX12_named_2 ⟨Nat.le_of_ble_eq_true rfl, Nat.le_of_ble_eq_true rfl⟩) (fun r1 hr1 => ?_)
  rcases hr1 with ⟨rfl, fr1⟩ | ⟨rfl, fr1⟩
  · skip
    have i_12_1 : 0 ≤ (iv 12 1).toInt ∧ (iv 12 1).toInt ≤ 10 := hI.1 12 1
    have fr1 : ¬ (0 ≤ (a : Int32).toInt ∧ (a : Int32).toInt < ((iv 12 1) : Int32).toInt) := fr1
    refine lv_if_eq (tgt := 11) hx hb dX12_named_5 (by decide) (fun c2 => ?_) (fun c2 => ?_)
    · exact absurd c2 (by decide)
    · skip
      refine lv_ldc hx hb hown (ht _ m_1389) dX12_named_8 ?_
      have : ((-100001) : Int32).toInt = (-100001) := (by decide)
      have hP9 : va_P (dC, dI) classes (WM h g ca (u2 iv 12 41 (iv 12 41)) lv (u2 (u2 fa 12 39 (fa 12 39)) 12 40 (fa 12 40)) la) s.heap := hP
      have hD9 : va_D A (WM h g ca (u2 iv 12 41 (iv 12 41)) lv (u2 (u2 fa 12 39 (fa 12 39)) 12 40 (fa 12 40)) la) := hD
      exact W.iret (v := (-100001)) hx hb hr (fun t ht9 hW => ⟨⟨(-100001), ((u2 iv 12 41 (iv 12 41)), lv, (u2 (u2 fa 12 39 (fa 12 39)) 12 40 (fa 12 40)), la), rfl, ⟨(fa 12 39), (fa 12 40), (iv 12 41), (hI.2 12 39), (hI.2 12 40), (hI.1 12 41), (show ((((-100001) : Int32).toInt = -100001 ∧ ¬ (0 ≤ (a).toInt ∧ (a).toInt < (iv 12 1).toInt)) ∨ (((-100001) : Int32).toInt = -100002 ∧ (0 ≤ (a).toInt ∧ (a).toInt < (iv 12 1).toInt) ∧ ¬ (0 ≤ (b).toInt ∧ (b).toInt ≤ 3000)) ∨ ((0 ≤ (a).toInt ∧ (a).toInt < (iv 12 1).toInt) ∧ (0 ≤ (b).toInt ∧ (b).toInt ≤ 3000) ∧ ((fa 12 51) ((a).toInt).toNat).toInt = 0 ∧ ((-100001) : Int32).toInt = -1) ∨ ((0 ≤ (a).toInt ∧ (a).toInt < (iv 12 1).toInt) ∧ (0 ≤ (b).toInt ∧ (b).toInt ≤ 3000) ∧ 0 < ((fa 12 51) ((a).toInt).toNat).toInt ∧ ∃ S : Int32, S.toInt = sI (fun k : Nat => 2 * ((fa 12 52) (12 * ((a).toInt).toNat + k)).toInt) (((fa 12 51) ((a).toInt).toNat).toInt).toNat ∧ NaY (iv 12 23).toInt (fa 12 24) (fa 12 25) (fa 12 26) (fa 12 28) (fa 12 29) S ((fa 12 51) ((a).toInt).toNat) (b).toInt ((-100001) : Int32).toInt)) from Or.inl ⟨by omega, by omega⟩), ⟨by decide, by decide⟩, rfl⟩, by rw [ht9]; exact hP9, hD9⟩, hS.F ht9⟩) hS.2.2 dX12_named_10
  · skip
    have i_12_1 : 0 ≤ (iv 12 1).toInt ∧ (iv 12 1).toInt ≤ 10 := hI.1 12 1
    have fr1 : (0 ≤ (a : Int32).toInt ∧ (a : Int32).toInt < ((iv 12 1) : Int32).toInt) := Decidable.not_not.mp fr1
    refine lv_if_eq (tgt := 11) hx hb dX12_named_5 (by decide) (fun c3 => ?_) (fun c3 => ?_)
    · skip
      refine lv_iload_n hx hb dX12_named_11 rfl (lv_at hl 2 rfl) ?_
      refine vp_callSi (W.runS (As := [.int b]) (rest := []) ⟨hx, hb, hml, hown, ht⟩ (c_X12_isDay l dC dI b) (kS 1 ht m_1422 m_1423 m_89 m_1424 rfl rfl hd_X12_isDay_v ⟨Nat.le_of_ble_eq_true rfl, Nat.le_of_ble_eq_true rfl⟩) (sR noP (hK.sub (tys' := []) [] rfl)) rfl rfl hl.1 rfl (lv_room (Nat.le_of_ble_eq_true rfl)) dX12_named_12 ⟨Nat.le_of_ble_eq_true rfl, Nat.le_of_ble_eq_true rfl⟩) (fun r4 hr4 => ?_)
      rcases hr4 with ⟨rfl, fr4⟩ | ⟨rfl, fr4⟩
      · skip
        refine lv_if_ne (tgt := 21) hx hb dX12_named_15 (by decide) (fun c5 => ?_) (fun c5 => ?_)
        · skip
          refine lv_aload_n hx hb dX12_named_21 rfl (lv_at hl 0 rfl) ?_
          refine gM_12_51 hx hb ht hown hK hP m_1190 dX12_named_22 ?_
          refine lv_iload_n hx hb dX12_named_25 rfl (lv_at hl 1 rfl) ?_
          refine lM_12_51 hx hb hK hP (f := (fa 12 51)) rfl (vp_in_iff.mpr ⟨by omega, by omega⟩) dX12_named_26 ?_
          refine lv_topi (fun v6 ev6 => ?_)
          have tv6 : 0 ≤ v6.toInt ∧ v6.toInt ≤ 12 := by rw [ev6]; exact hI.2 12 51 _
          have hn8 : v6 = (fa 12 51 (a.toInt).toNat) := ev6
          have hn9 := congrArg Int32.toInt hn8
          refine lv_istore_n (lv' := [(3, .int v6), (0, .ref h), (1, .int a), (2, .int b)]) hx hb dX12_named_27 rfl hl (by decide) rfl (fun ls hl => ?_)
          refine lv_iconst (v := 0) hx hb dX12_named_28 (by decide) ?_
          refine lv_istore (lv' := [(4, .int 0), (3, .int v6), (0, .ref h), (1, .int a), (2, .int b)]) hx hb dX12_named_29 hl (by decide) rfl (fun ls hl => ?_)
          refine lv_iconst (v := 0) hx hb dX12_named_31 (by decide) ?_
          refine lv_istore (lv' := [(5, .int 0), (4, .int 0), (3, .int v6), (0, .ref h), (1, .int a), (2, .int b)]) hx hb dX12_named_32 hl (by decide) rfl (fun ls hl => ?_)
          have lp34383 : ∀ (nn34383 : Nat) (x34382_5 : Int32) (x34382_4 : Int32), 0 ≤ x34382_5.toInt ∧ x34382_5.toInt ≤ 12 → 0 ≤ x34382_4.toInt ∧ x34382_4.toInt ≤ 99999 → ((x34382_4 : Int32).toInt = sI (fun k : Nat => 2 * ((fa 12 52) (12 * ((a).toInt).toNat + k)).toInt) ((x34382_5 : Int32).toInt).toNat) → (x34382_5 : Int32).toInt ≤ ((fa 12 51) ((a).toInt).toNat).toInt → 12 - x34382_5.toInt < (nn34383 : Int) → ∀ (H : Heap) (locs : List Loc), ∀ (ls : Array Slot), va_P (dC, dI) classes (WM h g ca iv lv fa la) H → va_D A (WM h g ca iv lv fa la) → va_S A s.heap H locs → lv_has ls 10 [(5, .int x34382_5), (4, .int x34382_4), (3, .int v6), (0, .ref h), (1, .int a), (2, .int b)] → W p l e ({ frames := 2, cells := 0, slots := 0, locals := 46 } : Room) s m ([.ref h, .int a, .int b] : List Value).toArray below meth c H locs 0 0 (MQ below (va_Qi (fun r (u : SS) => ∃ (na_12_39 : Nat → Int32) (na_12_40 : Nat → Int32) (ni_12_41 : Int32), (∀ j, inb (bA 12 39 j) (na_12_39 j)) ∧ (∀ j, inb (bA 12 40 j) (na_12_40 j)) ∧ inb (bI 12 41) ni_12_41 ∧ (((r.toInt = -100001 ∧ ¬ (0 ≤ a.toInt ∧ a.toInt < (iv 12 1).toInt)) ∨ (r.toInt = -100002 ∧ (0 ≤ a.toInt ∧ a.toInt < (iv 12 1).toInt) ∧ ¬ (0 ≤ b.toInt ∧ b.toInt ≤ 3000)) ∨ ((0 ≤ a.toInt ∧ a.toInt < (iv 12 1).toInt) ∧ (0 ≤ b.toInt ∧ b.toInt ≤ 3000) ∧ ((fa 12 51) (a.toInt).toNat).toInt = 0 ∧ r.toInt = -1) ∨ ((0 ≤ a.toInt ∧ a.toInt < (iv 12 1).toInt) ∧ (0 ≤ b.toInt ∧ b.toInt ≤ 3000) ∧ 0 < ((fa 12 51) (a.toInt).toNat).toInt ∧ ∃ S : Int32, S.toInt = sI (fun k : Nat => 2 * ((fa 12 52) (12 * (a.toInt).toNat + k)).toInt) (((fa 12 51) (a.toInt).toNat).toInt).toNat ∧ NaY (iv 12 23).toInt (fa 12 24) (fa 12 25) (fa 12 26) (fa 12 28) (fa 12 29) S ((fa 12 51) (a.toInt).toNat) b.toInt r.toInt))) ∧ ((-100002) ≤ r.toInt ∧ r.toInt ≤ 767) ∧ u = ((u2 iv 12 41 ni_12_41), lv, (u2 (u2 fa 12 39 na_12_39) 12 40 na_12_40), la)) (bM (dC, dI) h g ca A) A) ([.ref h, .int a, .int b] : List Value).toArray s 0 0 A) (F0 m 34 ls []) := by
            intro nn34383
            induction nn34383 with
            | zero => intro x34382_5 x34382_4 hx34382_5 hx34382_4 hq34383_0 hq34383_1 hm34383; exfalso; omega
            | succ nn34383 ih34383 =>
              intro x34382_5 x34382_4 hx34382_5 hx34382_4 hq34383_0 hq34383_1 hm34383 H locs ls hP hD hS hl
              refine lv_iload hx hb dX12_named_34 (lv_at hl 0 rfl) ?_
              refine lv_iload_n hx hb dX12_named_36 rfl (lv_at hl 2 rfl) ?_
              refine lv_icmp_ge (tgt := 65) hx hb dX12_named_37 (by decide) (fun c34384 => ?_) (fun c34384 => ?_)
              · have fc34384 := z_le (rfl : (v6).toInt = _) (rfl : (x34382_5).toInt = _) c34384
                have hsm := hq34383_0
                refine lv_aload_n hx hb dX12_named_65 rfl (lv_at hl 3 rfl) ?_
                refine lv_iload_n hx hb dX12_named_66 rfl (lv_at hl 5 rfl) ?_
                have hFc := free_all hD hS hA
                refine va_callv (va_runV (As := [.int b]) (rest := []) ⟨hx, hb, hml, hown, ht⟩ (c_X12_findRules_f l dC dI H.size h g ca iv lv fa la hI b hJC hJK) (kV 1 ht m_1513 m_1515 m_56 m_89 m_1516 rfl rfl hd_X12_findRules_v ⟨Nat.le_of_ble_eq_true rfl, Nat.le_of_ble_eq_true rfl⟩) (vW hP hK hD (rM_12 hK hP)) rfl rfl hl.1 rfl (lv_room (Nat.le_of_ble_eq_true rfl)) dX12_named_67 ⟨Nat.le_of_ble_eq_true rfl, Nat.le_of_ble_eq_true rfl⟩) hS (fun q _ h => hFc q h) hFc (fun u t H1 locs ht9 hvm hr34385 hB hz1 hk1 hS => ?_)
                obtain ⟨n34386, n34387, n34388, hn34386, hn34387, hn34388, xr34385_0, xr34385_1, xr34385_2, xr34385_3, rfl⟩ := hr34385
                have hn34388 : 0 ≤ n34388.toInt ∧ n34388.toInt ≤ 8 := hn34388
                obtain ⟨hP, hD⟩ := hB
                rw [ht9] at hP
                generalize H1 = H at hP hS ⊢
                have hP : va_P (dC, dI) classes (WM h g ca (u2 iv 12 41 n34388) lv (u2 (u2 fa 12 39 n34386) 12 40 n34387) la) H := hP
                have hD : va_D A (WM h g ca (u2 iv 12 41 n34388) lv (u2 (u2 fa 12 39 n34386) 12 40 n34387) la) := (show va_D _ (WM h g ca (u2 iv 12 41 n34388) lv (u2 (u2 fa 12 39 n34386) 12 40 n34387) la) from hD).weaken (fun _ _ _ h => hFc _ h)
                have i_12_23 : 0 ≤ (iv 12 23).toInt ∧ (iv 12 23).toInt ≤ 8 := hI.1 12 23
                have xr34385_0 : ∀ j : Nat, (j : Int) < (n34388 : Int32).toInt → (n34387 j).toInt < ((iv 12 23) : Int32).toInt := xr34385_0
                have xr34385_1 : (n34388 : Int32).toInt ≤ ((iv 12 23) : Int32).toInt := xr34385_1
                have xr34385_2 : OnR ((iv 12 23) : Int32).toInt (fun r => (n34386 r).toInt = 1) (fa 12 24) (St (fa 12 25) (mX (fa 12 26) 3) (fa 12 28)) (b : Int32).toInt := xr34385_2
                have xr34385_3 : OrK ((iv 12 23) : Int32).toInt (fun r => (n34386 r).toInt = 1) (fa 12 24) n34387 (n34388 : Int32).toInt := xr34385_3
                refine lv_iconst (v := (-1)) hx hb dX12_named_70 (by decide) ?_
                refine lv_istore (lv' := [(5, .int (-1)), (4, .int x34382_4), (3, .int v6), (0, .ref h), (1, .int a), (2, .int b)]) hx hb dX12_named_71 hl (by decide) rfl (fun ls hl => ?_)
                refine lv_iconst (v := 0) hx hb dX12_named_73 (by decide) ?_
                refine lv_istore (lv' := [(6, .int 0), (5, .int (-1)), (4, .int x34382_4), (3, .int v6), (0, .ref h), (1, .int a), (2, .int b)]) hx hb dX12_named_74 hl (by decide) rfl (fun ls hl => ?_)
                have lp36955 : ∀ (nn36955 : Nat) (x36954_6 : Int32) (x36954_5 : Int32), 0 ≤ x36954_6.toInt ∧ x36954_6.toInt ≤ 8 → (-1) ≤ x36954_5.toInt ∧ x36954_5.toInt ≤ 767 → (SqO (fa 12 25) n34387 (mN (fa 12 26) (fa 12 28) (fa 12 29) 2 (x34382_4 : Int32) (v6 : Int32)) vN (-1) (x36954_6 : Int32).toInt (x36954_5 : Int32).toInt) → (x36954_6 : Int32).toInt ≤ (n34388 : Int32).toInt → ((v6 : Int32).toInt ≠ 0 ∨ (x36954_5 : Int32).toInt = -1) → 8 - x36954_6.toInt < (nn36955 : Int) → ∀ (H : Heap) (locs : List Loc), ∀ (ls : Array Slot), va_P (dC, dI) classes (WM h g ca (u2 iv 12 41 n34388) lv (u2 (u2 fa 12 39 n34386) 12 40 n34387) la) H → va_D A (WM h g ca (u2 iv 12 41 n34388) lv (u2 (u2 fa 12 39 n34386) 12 40 n34387) la) → va_S A s.heap H locs → lv_has ls 10 [(6, .int x36954_6), (5, .int x36954_5), (4, .int x34382_4), (3, .int v6), (0, .ref h), (1, .int a), (2, .int b)] → W p l e ({ frames := 2, cells := 0, slots := 0, locals := 46 } : Room) s m ([.ref h, .int a, .int b] : List Value).toArray below meth c H locs 0 0 (MQ below (va_Qi (fun r (u : SS) => ∃ (na_12_39 : Nat → Int32) (na_12_40 : Nat → Int32) (ni_12_41 : Int32), (∀ j, inb (bA 12 39 j) (na_12_39 j)) ∧ (∀ j, inb (bA 12 40 j) (na_12_40 j)) ∧ inb (bI 12 41) ni_12_41 ∧ (((r.toInt = -100001 ∧ ¬ (0 ≤ a.toInt ∧ a.toInt < (iv 12 1).toInt)) ∨ (r.toInt = -100002 ∧ (0 ≤ a.toInt ∧ a.toInt < (iv 12 1).toInt) ∧ ¬ (0 ≤ b.toInt ∧ b.toInt ≤ 3000)) ∨ ((0 ≤ a.toInt ∧ a.toInt < (iv 12 1).toInt) ∧ (0 ≤ b.toInt ∧ b.toInt ≤ 3000) ∧ ((fa 12 51) (a.toInt).toNat).toInt = 0 ∧ r.toInt = -1) ∨ ((0 ≤ a.toInt ∧ a.toInt < (iv 12 1).toInt) ∧ (0 ≤ b.toInt ∧ b.toInt ≤ 3000) ∧ 0 < ((fa 12 51) (a.toInt).toNat).toInt ∧ ∃ S : Int32, S.toInt = sI (fun k : Nat => 2 * ((fa 12 52) (12 * (a.toInt).toNat + k)).toInt) (((fa 12 51) (a.toInt).toNat).toInt).toNat ∧ NaY (iv 12 23).toInt (fa 12 24) (fa 12 25) (fa 12 26) (fa 12 28) (fa 12 29) S ((fa 12 51) (a.toInt).toNat) b.toInt r.toInt))) ∧ ((-100002) ≤ r.toInt ∧ r.toInt ≤ 767) ∧ u = ((u2 iv 12 41 ni_12_41), lv, (u2 (u2 fa 12 39 na_12_39) 12 40 na_12_40), la)) (bM (dC, dI) h g ca A) A) ([.ref h, .int a, .int b] : List Value).toArray s 0 0 A) (F0 m 76 ls []) := by
                  intro nn36955
                  induction nn36955 with
                  | zero => intro x36954_6 x36954_5 hx36954_6 hx36954_5 hq36955_0 hq36955_1 hq36955_2 hm36955; exfalso; omega
                  | succ nn36955 ih36955 =>
                    intro x36954_6 x36954_5 hx36954_6 hx36954_5 hq36955_0 hq36955_1 hq36955_2 hm36955 H locs ls hP hD hS hl
                    refine lv_iload hx hb dX12_named_76 (lv_at hl 0 rfl) ?_
                    refine lv_aload_n hx hb dX12_named_78 rfl (lv_at hl 4 rfl) ?_
                    refine gM_12_41 hx hb ht hown hK hP m_1180 (v := n34388) rfl dX12_named_79 ?_
                    refine lv_icmp_ge (tgt := 189) hx hb dX12_named_82 (by decide) (fun c36956 => ?_) (fun c36956 => ?_)
                    · have fc36956 := z_le (rfl : (n34388).toInt = _) (rfl : (x36954_6).toInt = _) c36956
                      refine lv_iload hx hb dX12_named_189 (lv_at hl 1 rfl) ?_
                      have hP9 : va_P (dC, dI) classes (WM h g ca (u2 iv 12 41 n34388) lv (u2 (u2 fa 12 39 n34386) 12 40 n34387) la) H := hP
                      have hD9 : va_D A (WM h g ca (u2 iv 12 41 n34388) lv (u2 (u2 fa 12 39 n34386) 12 40 n34387) la) := hD
                      exact W.iret (v := x36954_5) hx hb hr (fun t ht9 hW => ⟨⟨x36954_5, ((u2 iv 12 41 n34388), lv, (u2 (u2 fa 12 39 n34386) 12 40 n34387), la), rfl, ⟨n34386, n34387, n34388, hn34386, hn34387, (show inb (0, 8) n34388 from ⟨by omega, by omega⟩), (show (((x36954_5 : Int32).toInt = -100001 ∧ ¬ (0 ≤ (a).toInt ∧ (a).toInt < (iv 12 1).toInt)) ∨ ((x36954_5 : Int32).toInt = -100002 ∧ (0 ≤ (a).toInt ∧ (a).toInt < (iv 12 1).toInt) ∧ ¬ (0 ≤ (b).toInt ∧ (b).toInt ≤ 3000)) ∨ ((0 ≤ (a).toInt ∧ (a).toInt < (iv 12 1).toInt) ∧ (0 ≤ (b).toInt ∧ (b).toInt ≤ 3000) ∧ ((fa 12 51) ((a).toInt).toNat).toInt = 0 ∧ (x36954_5 : Int32).toInt = -1) ∨ ((0 ≤ (a).toInt ∧ (a).toInt < (iv 12 1).toInt) ∧ (0 ≤ (b).toInt ∧ (b).toInt ≤ 3000) ∧ 0 < ((fa 12 51) ((a).toInt).toNat).toInt ∧ ∃ S : Int32, S.toInt = sI (fun k : Nat => 2 * ((fa 12 52) (12 * ((a).toInt).toNat + k)).toInt) (((fa 12 51) ((a).toInt).toNat).toInt).toNat ∧ NaY (iv 12 23).toInt (fa 12 24) (fa 12 25) (fa 12 26) (fa 12 28) (fa 12 29) S ((fa 12 51) ((a).toInt).toNat) (b).toInt (x36954_5 : Int32).toInt)) from (by
                            by_cases hz9 : (fa 12 51 (a.toInt).toNat).toInt = 0
                            · exact Or.inr (Or.inr (Or.inl ⟨⟨by omega, by omega⟩, ⟨by omega, by omega⟩, by omega, by omega⟩))
                            · have hq9 := hq36955_0
                              have he9 : (x36954_6 : Int32).toInt = (n34388 : Int32).toInt := by omega
                              rw [he9, hn8] at hq9
                              obtain ⟨s9, hs9⟩ := SqO_Best (by omega) xr34385_3 hq9
                              have hu9 := hsm
                              have hv9 : ((x34382_5 : Int32).toInt).toNat = ((fa 12 51 (a.toInt).toNat).toInt).toNat := by omega
                              rw [hv9] at hu9
                              exact Or.inr (Or.inr (Or.inr ⟨⟨by omega, by omega⟩, ⟨by omega, by omega⟩, by omega, x34382_4, hu9, _, s9, xr34385_2, hs9⟩)))), ⟨by omega, by omega⟩, rfl⟩, by rw [ht9]; exact hP9, hD9⟩, hS.F ht9⟩) hS.2.2 dX12_named_191
                    · have fc36956 := z_nle (rfl : (n34388).toInt = _) (rfl : (x36954_6).toInt = _) c36956
                      refine lv_iload_n hx hb dX12_named_85 rfl (lv_at hl 3 rfl) ?_
                      refine lv_if_le (tgt := 189) hx hb dX12_named_86 (by decide) (fun c36957 => ?_) (fun c36957 => ?_)
                      · have fc36957 := z_le (rfl : (v6).toInt = _) (by decide : (0 : Int32).toInt = 0) c36957
                        refine lv_iload hx hb dX12_named_189 (lv_at hl 1 rfl) ?_
                        have hP9 : va_P (dC, dI) classes (WM h g ca (u2 iv 12 41 n34388) lv (u2 (u2 fa 12 39 n34386) 12 40 n34387) la) H := hP
                        have hD9 : va_D A (WM h g ca (u2 iv 12 41 n34388) lv (u2 (u2 fa 12 39 n34386) 12 40 n34387) la) := hD
                        exact W.iret (v := x36954_5) hx hb hr (fun t ht9 hW => ⟨⟨x36954_5, ((u2 iv 12 41 n34388), lv, (u2 (u2 fa 12 39 n34386) 12 40 n34387), la), rfl, ⟨n34386, n34387, n34388, hn34386, hn34387, (show inb (0, 8) n34388 from ⟨by omega, by omega⟩), (show (((x36954_5 : Int32).toInt = -100001 ∧ ¬ (0 ≤ (a).toInt ∧ (a).toInt < (iv 12 1).toInt)) ∨ ((x36954_5 : Int32).toInt = -100002 ∧ (0 ≤ (a).toInt ∧ (a).toInt < (iv 12 1).toInt) ∧ ¬ (0 ≤ (b).toInt ∧ (b).toInt ≤ 3000)) ∨ ((0 ≤ (a).toInt ∧ (a).toInt < (iv 12 1).toInt) ∧ (0 ≤ (b).toInt ∧ (b).toInt ≤ 3000) ∧ ((fa 12 51) ((a).toInt).toNat).toInt = 0 ∧ (x36954_5 : Int32).toInt = -1) ∨ ((0 ≤ (a).toInt ∧ (a).toInt < (iv 12 1).toInt) ∧ (0 ≤ (b).toInt ∧ (b).toInt ≤ 3000) ∧ 0 < ((fa 12 51) ((a).toInt).toNat).toInt ∧ ∃ S : Int32, S.toInt = sI (fun k : Nat => 2 * ((fa 12 52) (12 * ((a).toInt).toNat + k)).toInt) (((fa 12 51) ((a).toInt).toNat).toInt).toNat ∧ NaY (iv 12 23).toInt (fa 12 24) (fa 12 25) (fa 12 26) (fa 12 28) (fa 12 29) S ((fa 12 51) ((a).toInt).toNat) (b).toInt (x36954_5 : Int32).toInt)) from Or.inr (Or.inr (Or.inl ⟨⟨by omega, by omega⟩, ⟨by omega, by omega⟩, by omega, by omega⟩))), ⟨by omega, by omega⟩, rfl⟩, by rw [ht9]; exact hP9, hD9⟩, hS.F ht9⟩) hS.2.2 dX12_named_191
                      · have fc36957 := z_nle (rfl : (v6).toInt = _) (by decide : (0 : Int32).toInt = 0) c36957
                        refine lv_aload_n hx hb dX12_named_89 rfl (lv_at hl 4 rfl) ?_
                        refine gM_12_40 hx hb ht hown hK hP m_1179 dX12_named_90 ?_
                        refine lv_iload hx hb dX12_named_93 (lv_at hl 0 rfl) ?_
                        refine lM_12_40 hx hb hK hP (f := n34387) rfl (vp_in_iff.mpr ⟨by omega, by omega⟩) dX12_named_95 ?_
                        refine lv_topi (fun v36958 ev36958 => ?_)
                        have tv36958 : 0 ≤ v36958.toInt ∧ v36958.toInt ≤ 7 := by rw [ev36958]; exact hn34387 _
                        refine lv_istore (lv' := [(7, .int v36958), (6, .int x36954_6), (5, .int x36954_5), (4, .int x34382_4), (3, .int v6), (0, .ref h), (1, .int a), (2, .int b)]) hx hb dX12_named_96 hl (by decide) rfl (fun ls hl => ?_)
                        refine lv_iconst (v := 0) hx hb dX12_named_98 (by decide) ?_
                        refine lv_istore (lv' := [(8, .int 0), (7, .int v36958), (6, .int x36954_6), (5, .int x36954_5), (4, .int x34382_4), (3, .int v6), (0, .ref h), (1, .int a), (2, .int b)]) hx hb dX12_named_99 hl (by decide) rfl (fun ls hl => ?_)
                        have lp37220 : ∀ (nn37220 : Nat) (x37219_8 : Int32) (x37219_5 : Int32), 0 ≤ x37219_8.toInt ∧ x37219_8.toInt ≤ 12 → (-1) ≤ x37219_5.toInt ∧ x37219_5.toInt ≤ 767 → (SqI (fa 12 25) n34387 (mN (fa 12 26) (fa 12 28) (fa 12 29) 2 (x34382_4 : Int32) (v6 : Int32)) vN (-1) (x36954_6 : Int32).toInt (12 * (n34387 ((x36954_6 : Int32).toInt).toNat).toInt) (12 * (n34387 ((x36954_6 : Int32).toInt).toNat).toInt + (x37219_8 : Int32).toInt) (x37219_5 : Int32).toInt) → ((x37219_8 : Int32).toInt ≤ ((fa 12 25) ((n34387 ((x36954_6 : Int32).toInt).toNat).toInt).toNat).toInt) → 12 - x37219_8.toInt < (nn37220 : Int) → ∀ (H : Heap) (locs : List Loc), ∀ (ls : Array Slot), va_P (dC, dI) classes (WM h g ca (u2 iv 12 41 n34388) lv (u2 (u2 fa 12 39 n34386) 12 40 n34387) la) H → va_D A (WM h g ca (u2 iv 12 41 n34388) lv (u2 (u2 fa 12 39 n34386) 12 40 n34387) la) → va_S A s.heap H locs → lv_has ls 10 [(8, .int x37219_8), (7, .int v36958), (6, .int x36954_6), (5, .int x37219_5), (4, .int x34382_4), (3, .int v6), (0, .ref h), (1, .int a), (2, .int b)] → W p l e ({ frames := 2, cells := 0, slots := 0, locals := 46 } : Room) s m ([.ref h, .int a, .int b] : List Value).toArray below meth c H locs 0 0 (MQ below (va_Qi (fun r (u : SS) => ∃ (na_12_39 : Nat → Int32) (na_12_40 : Nat → Int32) (ni_12_41 : Int32), (∀ j, inb (bA 12 39 j) (na_12_39 j)) ∧ (∀ j, inb (bA 12 40 j) (na_12_40 j)) ∧ inb (bI 12 41) ni_12_41 ∧ (((r.toInt = -100001 ∧ ¬ (0 ≤ a.toInt ∧ a.toInt < (iv 12 1).toInt)) ∨ (r.toInt = -100002 ∧ (0 ≤ a.toInt ∧ a.toInt < (iv 12 1).toInt) ∧ ¬ (0 ≤ b.toInt ∧ b.toInt ≤ 3000)) ∨ ((0 ≤ a.toInt ∧ a.toInt < (iv 12 1).toInt) ∧ (0 ≤ b.toInt ∧ b.toInt ≤ 3000) ∧ ((fa 12 51) (a.toInt).toNat).toInt = 0 ∧ r.toInt = -1) ∨ ((0 ≤ a.toInt ∧ a.toInt < (iv 12 1).toInt) ∧ (0 ≤ b.toInt ∧ b.toInt ≤ 3000) ∧ 0 < ((fa 12 51) (a.toInt).toNat).toInt ∧ ∃ S : Int32, S.toInt = sI (fun k : Nat => 2 * ((fa 12 52) (12 * (a.toInt).toNat + k)).toInt) (((fa 12 51) (a.toInt).toNat).toInt).toNat ∧ NaY (iv 12 23).toInt (fa 12 24) (fa 12 25) (fa 12 26) (fa 12 28) (fa 12 29) S ((fa 12 51) (a.toInt).toNat) b.toInt r.toInt))) ∧ ((-100002) ≤ r.toInt ∧ r.toInt ≤ 767) ∧ u = ((u2 iv 12 41 ni_12_41), lv, (u2 (u2 fa 12 39 na_12_39) 12 40 na_12_40), la)) (bM (dC, dI) h g ca A) A) ([.ref h, .int a, .int b] : List Value).toArray s 0 0 A) (F0 m 101 ls []) := by
                          intro nn37220
                          induction nn37220 with
                          | zero => intro x37219_8 x37219_5 hx37219_8 hx37219_5 hq37220_0 hq37220_1 hm37220; exfalso; omega
                          | succ nn37220 ih37220 =>
                            intro x37219_8 x37219_5 hx37219_8 hx37219_5 hq37220_0 hq37220_1 hm37220 H locs ls hP hD hS hl
                            refine lv_iload hx hb dX12_named_101 (lv_at hl 0 rfl) ?_
                            refine lv_aload_n hx hb dX12_named_103 rfl (lv_at hl 6 rfl) ?_
                            refine gM_12_25 hx hb ht hown hK hP m_1164 dX12_named_104 ?_
                            refine lv_iload hx hb dX12_named_107 (lv_at hl 1 rfl) ?_
                            refine lM_12_25 hx hb hK hP (f := (fa 12 25)) rfl (vp_in_iff.mpr ⟨by omega, by omega⟩) dX12_named_109 ?_
                            refine lv_topi (fun v37221 ev37221 => ?_)
                            have tv37221 : 0 ≤ v37221.toInt ∧ v37221.toInt ≤ 12 := by rw [ev37221]; exact hI.2 12 25 _
                            refine lv_icmp_ge (tgt := 183) hx hb dX12_named_110 (by decide) (fun c37222 => ?_) (fun c37222 => ?_)
                            · have fc37222 := z_le (rfl : (v37221).toInt = _) (rfl : (x37219_8).toInt = _) c37222
                              obtain ⟨v37223, ev37223⟩ : ∃ y : Int32, y = x36954_6 + 1 := ⟨_, rfl⟩
                              have tv37223 := z_add ev37223 rfl (by decide : (1 : Int32).toInt = 1) (by omega) (by omega)
                              refine lv_iinc (v := v37223) (lv' := [(6, .int v37223), (8, .int x37219_8), (7, .int v36958), (5, .int x37219_5), (4, .int x34382_4), (3, .int v6), (0, .ref h), (1, .int a), (2, .int b)]) hx hb dX12_named_183 hl (k := 2) rfl (by rw [ev37223]; rfl) (by decide) rfl (fun ls hl => ?_)
                              refine lv_goto (tgt := 76) hx hb dX12_named_186 (by decide) ?_
                              exact ih36955 v37223 x37219_5 ⟨by omega, by omega⟩ ⟨by omega, by omega⟩ (show SqO (fa 12 25) n34387 (mN (fa 12 26) (fa 12 28) (fa 12 29) 2 (x34382_4 : Int32) (v6 : Int32)) vN (-1) (v37223 : Int32).toInt (x37219_5 : Int32).toInt from (by
                                    have hp9 : v36958 = n34387 ((x36954_6 : Int32).toInt).toNat := ev36958
                                    have hn7 := congrArg Int32.toInt (show v37221 = fa 12 25 ((v36958 : Int32).toInt).toNat from ev37221)
                                    rw [hp9] at hn7
                                    have hp8 := congrArg Int32.toInt hp9
                                    exact SqI_end (i := (x36954_6 : Int32).toInt) (lo := 12 * (n34387 ((x36954_6 : Int32).toInt).toNat).toInt) (c := 12 * (n34387 ((x36954_6 : Int32).toInt).toNat).toInt + (x37219_8 : Int32).toInt) (by omega) (by omega) (by omega) (by omega) hq37220_0)) (show (v37223 : Int32).toInt ≤ (n34388 : Int32).toInt from by omega) (show ((v6 : Int32).toInt ≠ 0 ∨ (x37219_5 : Int32).toInt = -1) from by omega) (by omega) _ _ ls hP hD hS (lv_sub hl [0, 3, 4, 5, 6, 7, 8] rfl)
                            · have fc37222 := z_nle (rfl : (v37221).toInt = _) (rfl : (x37219_8).toInt = _) c37222
                              refine lv_bipush (v := 12) hx hb dX12_named_113 (by decide) ?_
                              refine lv_iload hx hb dX12_named_115 (lv_at hl 1 rfl) ?_
                              refine lv_imul hx hb dX12_named_117 ?_
                              refine lv_topi (fun v37224 ev37224 => ?_)
                              have tv37224 := z_mul ev37224 (by decide : (12 : Int32).toInt = 12) (rfl : (v36958).toInt = _) (by omega) (by omega)
                              refine lv_iload hx hb dX12_named_118 (lv_at hl 0 rfl) ?_
                              refine lv_iadd hx hb dX12_named_120 ?_
                              refine lv_topi (fun v37225 ev37225 => ?_)
                              have tv37225 := z_add ev37225 (rfl : (v37224).toInt = _) (rfl : (x37219_8).toInt = _) (by omega) (by omega)
                              refine lv_istore (lv' := [(9, .int v37225), (8, .int x37219_8), (7, .int v36958), (6, .int x36954_6), (5, .int x37219_5), (4, .int x34382_4), (3, .int v6), (0, .ref h), (1, .int a), (2, .int b)]) hx hb dX12_named_121 hl (by decide) rfl (fun ls hl => ?_)
                              refine lv_aload_n hx hb dX12_named_123 rfl (lv_at hl 7 rfl) ?_
                              refine gM_12_26 hx hb ht hown hK hP m_1165 dX12_named_124 ?_
                              refine lv_iload hx hb dX12_named_127 (lv_at hl 0 rfl) ?_
                              refine lM_12_26 hx hb hK hP (f := (fa 12 26)) rfl (vp_in_iff.mpr ⟨by omega, by omega⟩) dX12_named_129 ?_
                              refine lv_topi (fun v37226 ev37226 => ?_)
                              refine lv_iconst (v := 2) hx hb dX12_named_130 (by decide) ?_
                              refine lv_icmp_ne (tgt := 173) hx hb dX12_named_131 (by decide) (fun c37227 => ?_) (fun c37227 => ?_)
                              · have fc37227 := z_ne (rfl : (v37226).toInt = _) (by decide : (2 : Int32).toInt = 2) c37227
                                refine lv_iload hx hb dX12_named_173 (lv_at hl 4 rfl) ?_
                                refine lv_istore (lv' := [(5, .int x37219_5), (9, .int v37225), (8, .int x37219_8), (7, .int v36958), (6, .int x36954_6), (4, .int x34382_4), (3, .int v6), (0, .ref h), (1, .int a), (2, .int b)]) hx hb dX12_named_175 hl (by decide) rfl (fun ls hl => ?_)
                                obtain ⟨v37228, ev37228⟩ : ∃ y : Int32, y = x37219_8 + 1 := ⟨_, rfl⟩
                                have tv37228 := z_add ev37228 rfl (by decide : (1 : Int32).toInt = 1) (by omega) (by omega)
                                refine lv_iinc (v := v37228) (lv' := [(8, .int v37228), (5, .int x37219_5), (9, .int v37225), (7, .int v36958), (6, .int x36954_6), (4, .int x34382_4), (3, .int v6), (0, .ref h), (1, .int a), (2, .int b)]) hx hb dX12_named_177 hl (k := 2) rfl (by rw [ev37228]; rfl) (by decide) rfl (fun ls hl => ?_)
                                refine lv_goto (tgt := 101) hx hb dX12_named_180 (by decide) ?_
                                exact ih37220 v37228 x37219_5 ⟨by omega, by omega⟩ ⟨by omega, by omega⟩ (show SqI (fa 12 25) n34387 (mN (fa 12 26) (fa 12 28) (fa 12 29) 2 (x34382_4 : Int32) (v6 : Int32)) vN (-1) (x36954_6 : Int32).toInt (12 * (n34387 ((x36954_6 : Int32).toInt).toNat).toInt) (12 * (n34387 ((x36954_6 : Int32).toInt).toNat).toInt + (v37228 : Int32).toInt) (x37219_5 : Int32).toInt from (by
                                      have hp9 := congrArg Int32.toInt (show v36958 = n34387 ((x36954_6 : Int32).toInt).toNat from ev36958)
                                      have hv9 := congrArg Int32.toInt (show v37226 = fa 12 26 ((v37225 : Int32).toInt).toNat from ev37226)
                                      exact SqI_n (j := ((v37225 : Int32).toInt).toNat) (c := 12 * (n34387 ((x36954_6 : Int32).toInt).toNat).toInt + (x37219_8 : Int32).toInt) (by omega) (by omega) (show ¬ ((fa 12 26 ((v37225 : Int32).toInt).toNat).toInt = 2 ∧ (fa 12 28 ((v37225 : Int32).toInt).toNat * v6).toInt ≤ x34382_4.toInt ∧ x34382_4.toInt < (fa 12 29 ((v37225 : Int32).toInt).toNat * v6).toInt) from by omega) hq37220_0)) (show (v37228 : Int32).toInt ≤ ((fa 12 25) ((n34387 ((x36954_6 : Int32).toInt).toNat).toInt).toNat).toInt from (by have hp9 : v36958 = n34387 ((x36954_6 : Int32).toInt).toNat := ev36958; have hn7 := congrArg Int32.toInt (show v37221 = fa 12 25 ((v36958 : Int32).toInt).toNat from ev37221); rw [hp9] at hn7; omega)) (by omega) _ _ ls hP hD hS (lv_sub hl [0, 3, 4, 1, 5, 6, 7, 8, 9] rfl)
                              · have fc37227 := z_eq (rfl : (v37226).toInt = _) (by decide : (2 : Int32).toInt = 2) c37227
                                refine lv_iload hx hb dX12_named_134 (lv_at hl 5 rfl) ?_
                                refine lv_iload_n hx hb dX12_named_136 rfl (lv_at hl 6 rfl) ?_
                                refine lv_aload_n hx hb dX12_named_137 rfl (lv_at hl 7 rfl) ?_
                                refine gM_12_28 hx hb ht hown hK hP m_1167 dX12_named_138 ?_
                                refine lv_iload hx hb dX12_named_141 (lv_at hl 0 rfl) ?_
                                refine lM_12_28 hx hb hK hP (f := (fa 12 28)) rfl (vp_in_iff.mpr ⟨by omega, by omega⟩) dX12_named_143 ?_
                                refine lv_topi (fun v37229 ev37229 => ?_)
                                refine lv_imul hx hb dX12_named_144 ?_
                                refine lv_topi (fun v37230 ev37230 => ?_)
                                refine lv_icmp_lt (tgt := 173) hx hb dX12_named_145 (by decide) (fun c37231 => ?_) (fun c37231 => ?_)
                                · have fc37231 := z_lt (rfl : (x34382_4).toInt = _) (rfl : (v37230).toInt = _) c37231
                                  refine lv_iload hx hb dX12_named_173 (lv_at hl 4 rfl) ?_
                                  refine lv_istore (lv' := [(5, .int x37219_5), (9, .int v37225), (8, .int x37219_8), (7, .int v36958), (6, .int x36954_6), (4, .int x34382_4), (3, .int v6), (0, .ref h), (1, .int a), (2, .int b)]) hx hb dX12_named_175 hl (by decide) rfl (fun ls hl => ?_)
                                  obtain ⟨v37232, ev37232⟩ : ∃ y : Int32, y = x37219_8 + 1 := ⟨_, rfl⟩
                                  have tv37232 := z_add ev37232 rfl (by decide : (1 : Int32).toInt = 1) (by omega) (by omega)
                                  refine lv_iinc (v := v37232) (lv' := [(8, .int v37232), (5, .int x37219_5), (9, .int v37225), (7, .int v36958), (6, .int x36954_6), (4, .int x34382_4), (3, .int v6), (0, .ref h), (1, .int a), (2, .int b)]) hx hb dX12_named_177 hl (k := 2) rfl (by rw [ev37232]; rfl) (by decide) rfl (fun ls hl => ?_)
                                  refine lv_goto (tgt := 101) hx hb dX12_named_180 (by decide) ?_
                                  exact ih37220 v37232 x37219_5 ⟨by omega, by omega⟩ ⟨by omega, by omega⟩ (show SqI (fa 12 25) n34387 (mN (fa 12 26) (fa 12 28) (fa 12 29) 2 (x34382_4 : Int32) (v6 : Int32)) vN (-1) (x36954_6 : Int32).toInt (12 * (n34387 ((x36954_6 : Int32).toInt).toNat).toInt) (12 * (n34387 ((x36954_6 : Int32).toInt).toNat).toInt + (v37232 : Int32).toInt) (x37219_5 : Int32).toInt from (by
                                        have hp9 := congrArg Int32.toInt (show v36958 = n34387 ((x36954_6 : Int32).toInt).toNat from ev36958)
                                        have hv9 := congrArg Int32.toInt (show v37226 = fa 12 26 ((v37225 : Int32).toInt).toNat from ev37226)
                                        have hp19 : (v37230 : Int32).toInt = (fa 12 28 ((v37225 : Int32).toInt).toNat * v6).toInt := congrArg Int32.toInt ((ev37230.trans (congrArg (fun z => v6 * z) (show v37229 = fa 12 28 ((v37225 : Int32).toInt).toNat from ev37229))).trans (Int32.mul_comm v6 (fa 12 28 ((v37225 : Int32).toInt).toNat)))
                                        exact SqI_n (j := ((v37225 : Int32).toInt).toNat) (c := 12 * (n34387 ((x36954_6 : Int32).toInt).toNat).toInt + (x37219_8 : Int32).toInt) (by omega) (by omega) (show ¬ ((fa 12 26 ((v37225 : Int32).toInt).toNat).toInt = 2 ∧ (fa 12 28 ((v37225 : Int32).toInt).toNat * v6).toInt ≤ x34382_4.toInt ∧ x34382_4.toInt < (fa 12 29 ((v37225 : Int32).toInt).toNat * v6).toInt) from by omega) hq37220_0)) (show (v37232 : Int32).toInt ≤ ((fa 12 25) ((n34387 ((x36954_6 : Int32).toInt).toNat).toInt).toNat).toInt from (by have hp9 : v36958 = n34387 ((x36954_6 : Int32).toInt).toNat := ev36958; have hn7 := congrArg Int32.toInt (show v37221 = fa 12 25 ((v36958 : Int32).toInt).toNat from ev37221); rw [hp9] at hn7; omega)) (by omega) _ _ ls hP hD hS (lv_sub hl [0, 3, 4, 1, 5, 6, 7, 8, 9] rfl)
                                · have fc37231 := z_nlt (rfl : (x34382_4).toInt = _) (rfl : (v37230).toInt = _) c37231
                                  refine lv_iload hx hb dX12_named_148 (lv_at hl 5 rfl) ?_
                                  refine lv_iload_n hx hb dX12_named_150 rfl (lv_at hl 6 rfl) ?_
                                  refine lv_aload_n hx hb dX12_named_151 rfl (lv_at hl 7 rfl) ?_
                                  refine gM_12_29 hx hb ht hown hK hP m_1168 dX12_named_152 ?_
                                  refine lv_iload hx hb dX12_named_155 (lv_at hl 0 rfl) ?_
                                  refine lM_12_29 hx hb hK hP (f := (fa 12 29)) rfl (vp_in_iff.mpr ⟨by omega, by omega⟩) dX12_named_157 ?_
                                  refine lv_topi (fun v37233 ev37233 => ?_)
                                  refine lv_imul hx hb dX12_named_158 ?_
                                  refine lv_topi (fun v37234 ev37234 => ?_)
                                  refine lv_icmp_ge (tgt := 173) hx hb dX12_named_159 (by decide) (fun c37235 => ?_) (fun c37235 => ?_)
                                  · have fc37235 := z_le (rfl : (v37234).toInt = _) (rfl : (x34382_4).toInt = _) c37235
                                    refine lv_iload hx hb dX12_named_173 (lv_at hl 4 rfl) ?_
                                    refine lv_istore (lv' := [(5, .int x37219_5), (9, .int v37225), (8, .int x37219_8), (7, .int v36958), (6, .int x36954_6), (4, .int x34382_4), (3, .int v6), (0, .ref h), (1, .int a), (2, .int b)]) hx hb dX12_named_175 hl (by decide) rfl (fun ls hl => ?_)
                                    obtain ⟨v37236, ev37236⟩ : ∃ y : Int32, y = x37219_8 + 1 := ⟨_, rfl⟩
                                    have tv37236 := z_add ev37236 rfl (by decide : (1 : Int32).toInt = 1) (by omega) (by omega)
                                    refine lv_iinc (v := v37236) (lv' := [(8, .int v37236), (5, .int x37219_5), (9, .int v37225), (7, .int v36958), (6, .int x36954_6), (4, .int x34382_4), (3, .int v6), (0, .ref h), (1, .int a), (2, .int b)]) hx hb dX12_named_177 hl (k := 2) rfl (by rw [ev37236]; rfl) (by decide) rfl (fun ls hl => ?_)
                                    refine lv_goto (tgt := 101) hx hb dX12_named_180 (by decide) ?_
                                    exact ih37220 v37236 x37219_5 ⟨by omega, by omega⟩ ⟨by omega, by omega⟩ (show SqI (fa 12 25) n34387 (mN (fa 12 26) (fa 12 28) (fa 12 29) 2 (x34382_4 : Int32) (v6 : Int32)) vN (-1) (x36954_6 : Int32).toInt (12 * (n34387 ((x36954_6 : Int32).toInt).toNat).toInt) (12 * (n34387 ((x36954_6 : Int32).toInt).toNat).toInt + (v37236 : Int32).toInt) (x37219_5 : Int32).toInt from (by
                                          have hp9 := congrArg Int32.toInt (show v36958 = n34387 ((x36954_6 : Int32).toInt).toNat from ev36958)
                                          have hv9 := congrArg Int32.toInt (show v37226 = fa 12 26 ((v37225 : Int32).toInt).toNat from ev37226)
                                          have hp19 : (v37230 : Int32).toInt = (fa 12 28 ((v37225 : Int32).toInt).toNat * v6).toInt := congrArg Int32.toInt ((ev37230.trans (congrArg (fun z => v6 * z) (show v37229 = fa 12 28 ((v37225 : Int32).toInt).toNat from ev37229))).trans (Int32.mul_comm v6 (fa 12 28 ((v37225 : Int32).toInt).toNat)))
                                          have hp29 : (v37234 : Int32).toInt = (fa 12 29 ((v37225 : Int32).toInt).toNat * v6).toInt := congrArg Int32.toInt ((ev37234.trans (congrArg (fun z => v6 * z) (show v37233 = fa 12 29 ((v37225 : Int32).toInt).toNat from ev37233))).trans (Int32.mul_comm v6 (fa 12 29 ((v37225 : Int32).toInt).toNat)))
                                          exact SqI_n (j := ((v37225 : Int32).toInt).toNat) (c := 12 * (n34387 ((x36954_6 : Int32).toInt).toNat).toInt + (x37219_8 : Int32).toInt) (by omega) (by omega) (show ¬ ((fa 12 26 ((v37225 : Int32).toInt).toNat).toInt = 2 ∧ (fa 12 28 ((v37225 : Int32).toInt).toNat * v6).toInt ≤ x34382_4.toInt ∧ x34382_4.toInt < (fa 12 29 ((v37225 : Int32).toInt).toNat * v6).toInt) from by omega) hq37220_0)) (show (v37236 : Int32).toInt ≤ ((fa 12 25) ((n34387 ((x36954_6 : Int32).toInt).toNat).toInt).toNat).toInt from (by have hp9 : v36958 = n34387 ((x36954_6 : Int32).toInt).toNat := ev36958; have hn7 := congrArg Int32.toInt (show v37221 = fa 12 25 ((v36958 : Int32).toInt).toNat from ev37221); rw [hp9] at hn7; omega)) (by omega) _ _ ls hP hD hS (lv_sub hl [0, 3, 4, 1, 5, 6, 7, 8, 9] rfl)
                                  · have fc37235 := z_nle (rfl : (v37234).toInt = _) (rfl : (x34382_4).toInt = _) c37235
                                    refine lv_bipush (v := 100) hx hb dX12_named_162 (by decide) ?_
                                    refine lv_iload hx hb dX12_named_164 (lv_at hl 2 rfl) ?_
                                    refine lv_imul hx hb dX12_named_166 ?_
                                    refine lv_topi (fun v37237 ev37237 => ?_)
                                    have tv37237 := z_mul ev37237 (by decide : (100 : Int32).toInt = 100) (rfl : (v36958).toInt = _) (by omega) (by omega)
                                    refine lv_iload hx hb dX12_named_167 (lv_at hl 1 rfl) ?_
                                    refine lv_iadd hx hb dX12_named_169 ?_
                                    refine lv_topi (fun v37238 ev37238 => ?_)
                                    have tv37238 := z_add ev37238 (rfl : (v37237).toInt = _) (rfl : (x37219_8).toInt = _) (by omega) (by omega)
                                    refine lv_goto (tgt := 175) hx hb dX12_named_170 (by decide) ?_
                                    refine lv_istore (lv' := [(5, .int v37238), (9, .int v37225), (8, .int x37219_8), (7, .int v36958), (6, .int x36954_6), (4, .int x34382_4), (3, .int v6), (0, .ref h), (1, .int a), (2, .int b)]) hx hb dX12_named_175 hl (by decide) rfl (fun ls hl => ?_)
                                    obtain ⟨v37239, ev37239⟩ : ∃ y : Int32, y = x37219_8 + 1 := ⟨_, rfl⟩
                                    have tv37239 := z_add ev37239 rfl (by decide : (1 : Int32).toInt = 1) (by omega) (by omega)
                                    refine lv_iinc (v := v37239) (lv' := [(8, .int v37239), (5, .int v37238), (9, .int v37225), (7, .int v36958), (6, .int x36954_6), (4, .int x34382_4), (3, .int v6), (0, .ref h), (1, .int a), (2, .int b)]) hx hb dX12_named_177 hl (k := 2) rfl (by rw [ev37239]; rfl) (by decide) rfl (fun ls hl => ?_)
                                    refine lv_goto (tgt := 101) hx hb dX12_named_180 (by decide) ?_
                                    exact ih37220 v37239 v37238 ⟨by omega, by omega⟩ ⟨by omega, by omega⟩ (show SqI (fa 12 25) n34387 (mN (fa 12 26) (fa 12 28) (fa 12 29) 2 (x34382_4 : Int32) (v6 : Int32)) vN (-1) (x36954_6 : Int32).toInt (12 * (n34387 ((x36954_6 : Int32).toInt).toNat).toInt) (12 * (n34387 ((x36954_6 : Int32).toInt).toNat).toInt + (v37239 : Int32).toInt) (v37238 : Int32).toInt from (by
                                          have hp9 := congrArg Int32.toInt (show v36958 = n34387 ((x36954_6 : Int32).toInt).toNat from ev36958)
                                          have hv9 := congrArg Int32.toInt (show v37226 = fa 12 26 ((v37225 : Int32).toInt).toNat from ev37226)
                                          have hp19 : (v37230 : Int32).toInt = (fa 12 28 ((v37225 : Int32).toInt).toNat * v6).toInt := congrArg Int32.toInt ((ev37230.trans (congrArg (fun z => v6 * z) (show v37229 = fa 12 28 ((v37225 : Int32).toInt).toNat from ev37229))).trans (Int32.mul_comm v6 (fa 12 28 ((v37225 : Int32).toInt).toNat)))
                                          have hp29 : (v37234 : Int32).toInt = (fa 12 29 ((v37225 : Int32).toInt).toNat * v6).toInt := congrArg Int32.toInt ((ev37234.trans (congrArg (fun z => v6 * z) (show v37233 = fa 12 29 ((v37225 : Int32).toInt).toNat from ev37233))).trans (Int32.mul_comm v6 (fa 12 29 ((v37225 : Int32).toInt).toNat)))
                                          exact SqI_y (j := ((v37225 : Int32).toInt).toNat) (c := 12 * (n34387 ((x36954_6 : Int32).toInt).toNat).toInt + (x37219_8 : Int32).toInt) (by omega) (by omega) (by omega) (show ((fa 12 26 ((v37225 : Int32).toInt).toNat).toInt = 2 ∧ (fa 12 28 ((v37225 : Int32).toInt).toNat * v6).toInt ≤ x34382_4.toInt ∧ x34382_4.toInt < (fa 12 29 ((v37225 : Int32).toInt).toNat * v6).toInt) from ⟨by omega, by omega, by omega⟩) (show (v37238 : Int32).toInt = 100 * ((((v37225 : Int32).toInt).toNat / 12 : Nat) : Int) + ((((v37225 : Int32).toInt).toNat % 12 : Nat) : Int) from by omega))) (show (v37239 : Int32).toInt ≤ ((fa 12 25) ((n34387 ((x36954_6 : Int32).toInt).toNat).toInt).toNat).toInt from (by have hp9 : v36958 = n34387 ((x36954_6 : Int32).toInt).toNat := ev36958; have hn7 := congrArg Int32.toInt (show v37221 = fa 12 25 ((v36958 : Int32).toInt).toNat from ev37221); rw [hp9] at hn7; omega)) (by omega) _ _ ls hP hD hS (lv_sub hl [0, 3, 4, 1, 5, 6, 7, 8, 9] rfl)
                        have : (0 : Int32).toInt = 0 := (by decide)
                        exact lp37220 13 0 x36954_5 ⟨by decide, by decide⟩ ⟨by omega, by omega⟩ (show SqI (fa 12 25) n34387 (mN (fa 12 26) (fa 12 28) (fa 12 29) 2 (x34382_4 : Int32) (v6 : Int32)) vN (-1) (x36954_6 : Int32).toInt (12 * (n34387 ((x36954_6 : Int32).toInt).toNat).toInt) (12 * (n34387 ((x36954_6 : Int32).toInt).toNat).toInt + (0 : Int32).toInt) (x36954_5 : Int32).toInt from (by rw [show 12 * (n34387 ((x36954_6 : Int32).toInt).toNat).toInt + (0 : Int32).toInt = 12 * (n34387 ((x36954_6 : Int32).toInt).toNat).toInt from by have hz : (0 : Int32).toInt = 0 := (by decide); omega]; exact SqI_0 hq36955_0)) (show (0 : Int32).toInt ≤ ((fa 12 25) ((n34387 ((x36954_6 : Int32).toInt).toNat).toInt).toNat).toInt from (by have hb9 : 0 ≤ (fa 12 25 ((n34387 ((x36954_6 : Int32).toInt).toNat).toInt).toNat).toInt ∧ (fa 12 25 ((n34387 ((x36954_6 : Int32).toInt).toNat).toInt).toNat).toInt ≤ 12 := hI.2 12 25 _; have hz : (0 : Int32).toInt = 0 := (by decide); omega)) (by first | decide | omega) _ _ ls hP hD hS (lv_sub hl [0, 1, 2, 3, 4, 5, 6, 7, 8] rfl)
                have : (0 : Int32).toInt = 0 := (by decide)
                have : ((-1) : Int32).toInt = (-1) := (by decide)
                exact lp36955 9 0 (-1) ⟨by decide, by decide⟩ ⟨by decide, by decide⟩ (show SqO (fa 12 25) n34387 (mN (fa 12 26) (fa 12 28) (fa 12 29) 2 (x34382_4 : Int32) (v6 : Int32)) vN (-1) (0 : Int32).toInt ((-1) : Int32).toInt from (by have hz : (0 : Int32).toInt = 0 := (by decide); rw [hz]; exact SqO_0)) (show (0 : Int32).toInt ≤ (n34388 : Int32).toInt from by omega) (show ((v6 : Int32).toInt ≠ 0 ∨ ((-1) : Int32).toInt = -1) from by omega) (by first | decide | omega) _ _ ls hP hD hS (lv_sub hl [0, 1, 2, 3, 4, 5, 6] rfl)
              · have fc34384 := z_nle (rfl : (v6).toInt = _) (rfl : (x34382_5).toInt = _) c34384
                refine lv_iload hx hb dX12_named_40 (lv_at hl 1 rfl) ?_
                refine lv_iconst (v := 2) hx hb dX12_named_42 (by decide) ?_
                refine lv_aload_n hx hb dX12_named_43 rfl (lv_at hl 3 rfl) ?_
                refine gM_12_52 hx hb ht hown hK hP m_1191 dX12_named_44 ?_
                refine lv_bipush (v := 12) hx hb dX12_named_47 (by decide) ?_
                refine lv_iload_n hx hb dX12_named_49 rfl (lv_at hl 4 rfl) ?_
                refine lv_imul hx hb dX12_named_50 ?_
                refine lv_topi (fun v37240 ev37240 => ?_)
                have tv37240 := z_mul ev37240 (by decide : (12 : Int32).toInt = 12) (rfl : (a).toInt = _) (by omega) (by omega)
                refine lv_iload hx hb dX12_named_51 (lv_at hl 0 rfl) ?_
                refine lv_iadd hx hb dX12_named_53 ?_
                refine lv_topi (fun v37241 ev37241 => ?_)
                have tv37241 := z_add ev37241 (rfl : (v37240).toInt = _) (rfl : (x34382_5).toInt = _) (by omega) (by omega)
                refine lM_12_52 hx hb hK hP (f := (fa 12 52)) rfl (vp_in_iff.mpr ⟨by omega, by omega⟩) dX12_named_54 ?_
                refine lv_topi (fun v37242 ev37242 => ?_)
                have hi9 : (v37241 : Int32).toNatClampNeg = 12 * (a.toInt).toNat + ((x34382_5 : Int32).toInt).toNat := by show (v37241 : Int32).toInt.toNat = _; omega
                have hx9 := congrArg Int32.toInt ev37242
                rw [hi9] at hx9
                have hy9 := hJV (12 * (a.toInt).toNat + ((x34382_5 : Int32).toInt).toNat)
                have : 0 ≤ (v37242 : Int32).toInt ∧ (v37242 : Int32).toInt ≤ 999 := ⟨by omega, by omega⟩
                refine lv_imul hx hb dX12_named_55 ?_
                refine lv_topi (fun v37243 ev37243 => ?_)
                have tv37243 := z_mul ev37243 (by decide : (2 : Int32).toInt = 2) (rfl : (v37242).toInt = _) (by omega) (by omega)
                have hb9 := sI_b (f := (fun k : Nat => 2 * (fa 12 52 (12 * (a.toInt).toNat + k)).toInt)) ((x34382_5 : Int32).toInt).toNat (fun j hj => (by have h5 := hJV (12 * (a.toInt).toNat + j); show 0 ≤ 2 * (fa 12 52 (12 * (a.toInt).toNat + j)).toInt ∧ 2 * (fa 12 52 (12 * (a.toInt).toNat + j)).toInt ≤ 1998; omega))
                have : 0 ≤ (x34382_4 : Int32).toInt ∧ (x34382_4 : Int32).toInt ≤ 23976 := ⟨by omega, by omega⟩
                refine lv_iadd hx hb dX12_named_56 ?_
                refine lv_topi (fun v37244 ev37244 => ?_)
                have tv37244 := z_add ev37244 (rfl : (x34382_4).toInt = _) (rfl : (v37243).toInt = _) (by omega) (by omega)
                refine lv_istore (lv' := [(4, .int v37244), (5, .int x34382_5), (3, .int v6), (0, .ref h), (1, .int a), (2, .int b)]) hx hb dX12_named_57 hl (by decide) rfl (fun ls hl => ?_)
                obtain ⟨v37245, ev37245⟩ : ∃ y : Int32, y = x34382_5 + 1 := ⟨_, rfl⟩
                have tv37245 := z_add ev37245 rfl (by decide : (1 : Int32).toInt = 1) (by omega) (by omega)
                refine lv_iinc (v := v37245) (lv' := [(5, .int v37245), (4, .int v37244), (3, .int v6), (0, .ref h), (1, .int a), (2, .int b)]) hx hb dX12_named_59 hl (k := 1) rfl (by rw [ev37245]; rfl) (by decide) rfl (fun ls hl => ?_)
                refine lv_goto (tgt := 34) hx hb dX12_named_62 (by decide) ?_
                exact ih34383 v37245 v37244 ⟨by omega, by omega⟩ ⟨by omega, by omega⟩ (show (v37244 : Int32).toInt = sI (fun k : Nat => 2 * ((fa 12 52) (12 * ((a).toInt).toNat + k)).toInt) ((v37245 : Int32).toInt).toNat from (by have hc := sI_s (f := (fun k : Nat => 2 * (fa 12 52 (12 * (a.toInt).toNat + k)).toInt)) (k := (x34382_5 : Int32).toInt) (k' := (v37245 : Int32).toInt) (x := 2 * (fa 12 52 (12 * (a.toInt).toNat + ((x34382_5 : Int32).toInt).toNat)).toInt) (by omega) (by omega) rfl; have hq9 := hq34383_0; rw [hc]; omega)) (show (v37245 : Int32).toInt ≤ ((fa 12 51) ((a).toInt).toNat).toInt from by omega) (by omega) _ _ ls hP hD hS (lv_sub hl [0, 1, 2, 3, 4, 5] rfl)
          have : (0 : Int32).toInt = 0 := (by decide)
          exact lp34383 13 0 0 ⟨by decide, by decide⟩ ⟨by decide, by decide⟩ (show (0 : Int32).toInt = sI (fun k : Nat => 2 * ((fa 12 52) (12 * ((a).toInt).toNat + k)).toInt) ((0 : Int32).toInt).toNat from (by rw [show ((0 : Int32).toInt).toNat = 0 from by decide]; exact (by decide : (0 : Int32).toInt = 0))) (show (0 : Int32).toInt ≤ ((fa 12 51) ((a).toInt).toNat).toInt from by omega) (by first | decide | omega) _ _ ls hP hD hS (lv_sub hl [0, 1, 2, 3, 4, 5] rfl)
        · exact absurd c5 (by decide)
      · skip
        refine lv_if_ne (tgt := 21) hx hb dX12_named_15 (by decide) (fun c37246 => ?_) (fun c37246 => ?_)
        · exact absurd rfl c37246
        · skip
          refine lv_ldc hx hb hown (ht _ m_1373) dX12_named_18 ?_
          have : ((-100002) : Int32).toInt = (-100002) := (by decide)
          have hP9 : va_P (dC, dI) classes (WM h g ca (u2 iv 12 41 (iv 12 41)) lv (u2 (u2 fa 12 39 (fa 12 39)) 12 40 (fa 12 40)) la) s.heap := hP
          have hD9 : va_D A (WM h g ca (u2 iv 12 41 (iv 12 41)) lv (u2 (u2 fa 12 39 (fa 12 39)) 12 40 (fa 12 40)) la) := hD
          exact W.iret (v := (-100002)) hx hb hr (fun t ht9 hW => ⟨⟨(-100002), ((u2 iv 12 41 (iv 12 41)), lv, (u2 (u2 fa 12 39 (fa 12 39)) 12 40 (fa 12 40)), la), rfl, ⟨(fa 12 39), (fa 12 40), (iv 12 41), (hI.2 12 39), (hI.2 12 40), (hI.1 12 41), (show ((((-100002) : Int32).toInt = -100001 ∧ ¬ (0 ≤ (a).toInt ∧ (a).toInt < (iv 12 1).toInt)) ∨ (((-100002) : Int32).toInt = -100002 ∧ (0 ≤ (a).toInt ∧ (a).toInt < (iv 12 1).toInt) ∧ ¬ (0 ≤ (b).toInt ∧ (b).toInt ≤ 3000)) ∨ ((0 ≤ (a).toInt ∧ (a).toInt < (iv 12 1).toInt) ∧ (0 ≤ (b).toInt ∧ (b).toInt ≤ 3000) ∧ ((fa 12 51) ((a).toInt).toNat).toInt = 0 ∧ ((-100002) : Int32).toInt = -1) ∨ ((0 ≤ (a).toInt ∧ (a).toInt < (iv 12 1).toInt) ∧ (0 ≤ (b).toInt ∧ (b).toInt ≤ 3000) ∧ 0 < ((fa 12 51) ((a).toInt).toNat).toInt ∧ ∃ S : Int32, S.toInt = sI (fun k : Nat => 2 * ((fa 12 52) (12 * ((a).toInt).toNat + k)).toInt) (((fa 12 51) ((a).toInt).toNat).toInt).toNat ∧ NaY (iv 12 23).toInt (fa 12 24) (fa 12 25) (fa 12 26) (fa 12 28) (fa 12 29) S ((fa 12 51) ((a).toInt).toNat) (b).toInt ((-100002) : Int32).toInt)) from Or.inr (Or.inl ⟨by omega, ⟨by omega, by omega⟩, by omega⟩)), ⟨by decide, by decide⟩, rfl⟩, by rw [ht9]; exact hP9, hD9⟩, hS.F ht9⟩) hS.2.2 dX12_named_20
    · exact absurd rfl c3
