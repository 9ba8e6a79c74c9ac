/-! ===== pa2 ===== -/
set_option maxHeartbeats 4000000 in
set_option maxRecDepth 100000 in
/-- X6_tear -/
theorem c_X6_tear_w (l : Launch) (dC : Nat → ClassId) (dI : Nat → Nat → Nat) (sz : Nat) (h : Nat) (g : Nat → Nat → Nat) (ca : Nat → Nat → ClassId) (iv : Nat → Nat → Int32) (lv : Nat → Nat → Int64) (fa : Nat → Nat → Nat → Int32) (la : Nat → Nat → Nat → Int64) (hI : IX iv fa) (b : Int32) (d : Int32) (h_b : 0 ≤ b.toInt ∧ b.toInt ≤ 39) (hJP : ∀ p : Nat, (p : Int) < (iv 6 7).toInt → 0 ≤ (fa 6 2 p).toInt ∧ ((fa 6 0 p).toInt = 0 → (fa 6 2 p).toInt ≤ 129998) ∧ (fa 6 2 p).toInt ≤ 129868002 ∧ -1 ≤ (fa 6 3 p).toInt ∧ (fa 6 3 p).toInt < (p : Int)) : Met l yX6_tear (wc yX6_tear cX6_tear 5 (some .int)) ({ frames := 1, cells := 0, slots := 0, locals := 21 } : Room) (pW (dC, dI) classes (WX h g ca iv lv fa la) (TX ca) sz [.ref (g 11 9), .int b, .int d]) (va_Qi (fun r (u : SS) => ∃ (na_6_5 : Nat → Int32) (na_6_6 : Nat → Int32), (∀ j, inb (bA 6 6 j) (na_6_6 j)) ∧ (∃ T : Nat → Prop, Fa (iv 6 7).toInt (fa 6 3) (b.toInt).toNat T ∧ (∀ q : Nat, (((q : Int) < (iv 6 7).toInt ∧ T q ∧ ((fa 6 5) q).toInt = -1) → na_6_5 q = d) ∧ (¬ ((q : Int) < (iv 6 7).toInt ∧ T q ∧ ((fa 6 5) q).toInt = -1) → na_6_5 q = (fa 6 5) q)) ∧ r.toInt = (smC (fun q : Nat => T q ∧ ((fa 6 5) q).toInt = -1) ((iv 6 7).toInt).toNat).toInt) ∧ (True) ∧ u = (iv, lv, (u2 (u2 fa 6 5 na_6_5) 6 6 na_6_6), la)) (bX (dC, dI) h g ca (va_A (WX h g ca iv lv fa la) sz)) (va_A (WX h g ca iv lv fa la) sz)) 0 0 (va_A (WX h g ca iv lv fa la) sz) := by
  refine Met.ofW (cc := cX6_tear) (maxL := 5) (ret := (some .int)) (by decide) rfl ?_
  intro p e s m args below meth c s₁ B hml hv
  obtain ⟨rfl, hsz, hP, hK, hD0⟩ := hv
  have hx := B.exec
  have hb := B.bytes
  have hr := B.returns
  have ht := tb_tl (atoms_spec (ws := wc yX6_tear cX6_tear 5 (some .int)) B.pre)
  have hown : s.vm.findClass RX6 = some m.cls := findClass_of_methodNamed B.named
  have hlocks := B.notSynchronized
  subst hsz
  have hD := hD0.self (sz := s.heap.size)
  generalize hAe : va_A (WX h g ca iv lv fa la) s.heap.size = A at hD ⊢
  have hA : ∀ q : Nat, s.heap.size ≤ q → A q := fun q h => by rw [← hAe]; exact Or.inr h
  have hS : va_S A s.heap s.heap [] := va_S.rf
  have hl := lv_entry [.ref (g 11 9), .int b, .int d] (n := 5) (Nat.le_of_ble_eq_true rfl)
  rw [lg_entry_eq]
  generalize (lg_sl [.ref (g 11 9), .int b, .int d] ++ List.replicate (5 - (lg_sl [.ref (g 11 9), .int b, .int d]).length) Slot.unset).toArray = ls at hl ⊢
  have hl : lv_has ls 5 [(0, .ref (g 11 9)), (1, .int b), (2, .int d)] := hl
  refine lv_iconst (v := 0) hx hb dX6_tear_0 (by decide) ?_
  refine lv_istore_n (lv' := [(3, .int 0), (0, .ref (g 11 9)), (1, .int b), (2, .int d)]) hx hb dX6_tear_1 rfl hl (by decide) rfl (fun ls hl => ?_)
  refine lv_iconst (v := 0) hx hb dX6_tear_2 (by decide) ?_
  refine lv_istore (lv' := [(4, .int 0), (3, .int 0), (0, .ref (g 11 9)), (1, .int b), (2, .int d)]) hx hb dX6_tear_3 hl (by decide) rfl (fun ls hl => ?_)
  have i_6_7 : 0 ≤ (iv 6 7).toInt ∧ (iv 6 7).toInt ≤ 40 := hI.1 6 7
  have lp2602 : ∀ (nn2602 : Nat) (x2601_4 : Int32) (x2601_3 : Int32) (w2601_a_6_6 : Nat → Int32) (w2601_a_6_5 : Nat → Int32), 0 ≤ x2601_4.toInt ∧ x2601_4.toInt ≤ 40 → (∀ j, inb (bA 6 6 j) (w2601_a_6_6 j)) → (∀ j, inb (bA 6 5 j) (w2601_a_6_5 j)) → (∀ q : Nat, (q : Int) < (x2601_4 : Int32).toInt → ((w2601_a_6_6 q).toInt = 1 ↔ (q = ((b).toInt).toNat ∨ (0 ≤ ((fa 6 3) q).toInt ∧ (w2601_a_6_6 (((fa 6 3) q).toInt).toNat).toInt = 1)))) → (∀ q : Nat, (((q : Int) < (x2601_4 : Int32).toInt ∧ (w2601_a_6_6 q).toInt = 1 ∧ ((fa 6 5) q).toInt = -1) → w2601_a_6_5 q = d) ∧ (¬ ((q : Int) < (x2601_4 : Int32).toInt ∧ (w2601_a_6_6 q).toInt = 1 ∧ ((fa 6 5) q).toInt = -1) → w2601_a_6_5 q = (fa 6 5) q)) → ((x2601_3 : Int32).toInt = (smC (fun q : Nat => (w2601_a_6_6 q).toInt = 1 ∧ ((fa 6 5) q).toInt = -1) ((x2601_4 : Int32).toInt).toNat).toInt) → (x2601_4 : Int32).toInt ≤ ((iv 6 7) : Int32).toInt → 40 - x2601_4.toInt < (nn2602 : Int) → ∀ (H : Heap) (locs : List Loc), ∀ (ls : Array Slot), va_P (dC, dI) classes (WX h g ca iv lv (u2 (u2 fa 6 6 w2601_a_6_6) 6 5 w2601_a_6_5) la) H → va_D A (WX h g ca iv lv (u2 (u2 fa 6 6 w2601_a_6_6) 6 5 w2601_a_6_5) la) → va_S A s.heap H locs → lv_has ls 5 [(4, .int x2601_4), (3, .int x2601_3), (0, .ref (g 11 9)), (1, .int b), (2, .int d)] → W p l e ({ frames := 1, cells := 0, slots := 0, locals := 21 } : Room) s m ([.ref (g 11 9), .int b, .int d] : List Value).toArray below meth c H locs 0 0 (MQ below (va_Qi (fun r (u : SS) => ∃ (na_6_5 : Nat → Int32) (na_6_6 : Nat → Int32), (∀ j, inb (bA 6 6 j) (na_6_6 j)) ∧ (∃ T : Nat → Prop, Fa (iv 6 7).toInt (fa 6 3) (b.toInt).toNat T ∧ (∀ q : Nat, (((q : Int) < (iv 6 7).toInt ∧ T q ∧ ((fa 6 5) q).toInt = -1) → na_6_5 q = d) ∧ (¬ ((q : Int) < (iv 6 7).toInt ∧ T q ∧ ((fa 6 5) q).toInt = -1) → na_6_5 q = (fa 6 5) q)) ∧ r.toInt = (smC (fun q : Nat => T q ∧ ((fa 6 5) q).toInt = -1) ((iv 6 7).toInt).toNat).toInt) ∧ (True) ∧ u = (iv, lv, (u2 (u2 fa 6 5 na_6_5) 6 6 na_6_6), la)) (bX (dC, dI) h g ca A) A) ([.ref (g 11 9), .int b, .int d] : List Value).toArray s 0 0 A) (F0 m 5 ls []) := by
    intro nn2602
    induction nn2602 with
    | zero => intro x2601_4 x2601_3 w2601_a_6_6 w2601_a_6_5 hx2601_4 hw2601_a_6_6 hw2601_a_6_5 hq2602_0 hq2602_1 hq2602_2 hq2602_3 hm2602; exfalso; omega
    | succ nn2602 ih2602 =>
      intro x2601_4 x2601_3 w2601_a_6_6 w2601_a_6_5 hx2601_4 hw2601_a_6_6 hw2601_a_6_5 hq2602_0 hq2602_1 hq2602_2 hq2602_3 hm2602 H locs ls hP hD hS hl
      refine lv_iload hx hb dX6_tear_5 (lv_at hl 0 rfl) ?_
      refine lv_aload_n hx hb dX6_tear_7 rfl (lv_at hl 2 rfl) ?_
      refine gX_6_7 hx hb ht hown hK hP m_396 (v := (iv 6 7)) rfl dX6_tear_8 ?_
      refine lv_icmp_ge (tgt := 97) hx hb dX6_tear_11 (by decide) (fun c2603 => ?_) (fun c2603 => ?_)
      · have fc2603 := z_le (rfl : ((iv 6 7)).toInt = _) (rfl : (x2601_4).toInt = _) c2603
        refine lv_iload_n hx hb dX6_tear_97 rfl (lv_at hl 1 rfl) ?_
        have hP9 : va_P (dC, dI) classes (WX h g ca iv lv (u2 (u2 fa 6 5 w2601_a_6_5) 6 6 w2601_a_6_6) la) H := hP
        have hD9 : va_D A (WX h g ca iv lv (u2 (u2 fa 6 5 w2601_a_6_5) 6 6 w2601_a_6_6) la) := hD
        exact W.iret (v := x2601_3) hx hb hr (fun t ht9 hW => ⟨⟨x2601_3, (iv, lv, (u2 (u2 fa 6 5 w2601_a_6_5) 6 6 w2601_a_6_6), la), rfl, ⟨w2601_a_6_5, w2601_a_6_6, hw2601_a_6_6, (show ∃ T : Nat → Prop, Fa (iv 6 7).toInt (fa 6 3) ((b).toInt).toNat T ∧ (∀ q : Nat, (((q : Int) < (iv 6 7).toInt ∧ T q ∧ ((fa 6 5) q).toInt = -1) → w2601_a_6_5 q = d) ∧ (¬ ((q : Int) < (iv 6 7).toInt ∧ T q ∧ ((fa 6 5) q).toInt = -1) → w2601_a_6_5 q = (fa 6 5) q)) ∧ (x2601_3 : Int32).toInt = (smC (fun q : Nat => T q ∧ ((fa 6 5) q).toInt = -1) ((iv 6 7).toInt).toNat).toInt from (by
              have he9 : (x2601_4 : Int32).toInt = (iv 6 7).toInt := by omega
              have q0 := hq2602_0
              have q1 := hq2602_1
              have q2 := hq2602_2
              rw [he9] at q0 q1 q2
              exact ⟨fun q => (w2601_a_6_6 q).toInt = 1, q0, q1, q2⟩)), trivial, rfl⟩, by rw [ht9]; exact hP9, hD9⟩, hS.F ht9⟩) hS.2.2 dX6_tear_98
      · have fc2603 := z_nle (rfl : ((iv 6 7)).toInt = _) (rfl : (x2601_4).toInt = _) c2603
        refine lv_aload_n hx hb dX6_tear_14 rfl (lv_at hl 2 rfl) ?_
        refine gX_6_6 hx hb ht hown hK hP m_395 dX6_tear_15 ?_
        refine lv_iload hx hb dX6_tear_18 (lv_at hl 0 rfl) ?_
        refine lv_iload hx hb dX6_tear_20 (lv_at hl 0 rfl) ?_
        refine lv_iload_n hx hb dX6_tear_22 rfl (lv_at hl 3 rfl) ?_
        refine lv_icmp_eq (tgt := 55) hx hb dX6_tear_23 (by decide) (fun c2604 => ?_) (fun c2604 => ?_)
        · have fc2604 := z_eq (rfl : (x2601_4).toInt = _) (rfl : (b).toInt = _) c2604
          refine lv_iconst (v := 1) hx hb dX6_tear_55 (by decide) ?_
          refine lv_goto (tgt := 60) hx hb dX6_tear_56 (by decide) ?_
          refine tX_6_6 hx hb hK hP hD hS (f0 := w2601_a_6_6) rfl (i := x2601_4) (x := 1) (vp_in_iff.mpr ⟨by omega, by omega⟩) dX6_tear_60 (fun f2605 ef2605 H locs hP hD hS => ?_)
          have hf2605 : ∀ j, inb (bA 6 6 j) (f2605 j) := by rw [ef2605]; exact upd_b (b := bA 6 6) hw2601_a_6_6 (show inb (0, 1) (vp_nar .boolean 1) from ⟨by decide, by decide⟩)
          have hP : va_P (dC, dI) classes (WX h g ca iv lv (u2 (u2 fa 6 6 f2605) 6 5 w2601_a_6_5) la) H := hP
          have hD : va_D A (WX h g ca iv lv (u2 (u2 fa 6 6 f2605) 6 5 w2601_a_6_5) la) := hD
          refine lv_aload_n hx hb dX6_tear_61 rfl (lv_at hl 2 rfl) ?_
          refine gX_6_6 hx hb ht hown hK hP m_395 dX6_tear_62 ?_
          refine lv_iload hx hb dX6_tear_65 (lv_at hl 0 rfl) ?_
          refine lX_6_6 hx hb hK hP (f := f2605) rfl (vp_in_iff.mpr ⟨by omega, by omega⟩) dX6_tear_67 ?_
          refine lv_topi (fun v2606 ev2606 => ?_)
          have tv2606 : 0 ≤ v2606.toInt ∧ v2606.toInt ≤ 1 := by rw [ev2606]; exact hf2605 _
          refine lv_if_eq (tgt := 91) hx hb dX6_tear_68 (by decide) (fun c2607 => ?_) (fun c2607 => ?_)
          · have fc2607 := z_eq (rfl : (v2606).toInt = _) (by decide : (0 : Int32).toInt = 0) c2607
            obtain ⟨v2608, ev2608⟩ : ∃ y : Int32, y = x2601_4 + 1 := ⟨_, rfl⟩
            have tv2608 := z_add ev2608 rfl (by decide : (1 : Int32).toInt = 1) (by omega) (by omega)
            refine lv_iinc (v := v2608) (lv' := [(4, .int v2608), (3, .int x2601_3), (0, .ref (g 11 9)), (1, .int b), (2, .int d)]) hx hb dX6_tear_91 hl (k := 0) rfl (by rw [ev2608]; rfl) (by decide) rfl (fun ls hl => ?_)
            refine lv_goto (tgt := 5) hx hb dX6_tear_94 (by decide) ?_
            exact ih2602 v2608 x2601_3 f2605 w2601_a_6_5 ⟨by omega, by omega⟩ hf2605 hw2601_a_6_5 (show ∀ q : Nat, (q : Int) < (v2608 : Int32).toInt → ((f2605 q).toInt = 1 ↔ (q = ((b).toInt).toNat ∨ (0 ≤ ((fa 6 3) q).toInt ∧ (f2605 (((fa 6 3) q).toInt).toNat).toInt = 1))) from (by
                  have hk9 : ((((x2601_4 : Int32).toInt).toNat : Nat) : Int) = (x2601_4 : Int32).toInt := Int.toNat_of_nonneg (by omega)
                  have hO9 := hJP ((x2601_4 : Int32).toInt).toNat (by omega)
                  have hf9 : (f2605 ((x2601_4 : Int32).toInt).toNat).toInt = 1 := by rw [ef2605, show ((x2601_4 : Int32).toInt).toNat = (x2601_4 : Int32).toNatClampNeg from rfl, upd_eq] <;> decide
                  have hF9 : ∀ j : Nat, j ≠ ((x2601_4 : Int32).toInt).toNat → f2605 j = w2601_a_6_6 j := fun j hj => by rw [ef2605, upd_ne (show j ≠ (x2601_4 : Int32).toNatClampNeg from hj)]
                  have hl9 := congrArg Int32.toInt (show v2606 = f2605 ((x2601_4 : Int32).toInt).toNat from ev2606)
                  have hd9 : ((x2601_4 : Int32).toInt).toNat ≠ ((fa 6 3 ((x2601_4 : Int32).toInt).toNat).toInt).toNat ∨ (fa 6 3 ((x2601_4 : Int32).toInt).toNat).toInt < 0 := by omega
                  intro q hq
                  by_cases hj : q = ((x2601_4 : Int32).toInt).toNat
                  · rw [hj]
                    by_cases hz : 0 ≤ (fa 6 3 ((x2601_4 : Int32).toInt).toNat).toInt
                    · have hne : ((fa 6 3 ((x2601_4 : Int32).toInt).toNat).toInt).toNat ≠ ((x2601_4 : Int32).toInt).toNat := by omega
                      rw [hF9 _ hne]
                      constructor
                      · intro z; omega
                      · intro z; omega
                    · constructor
                      · intro z; omega
                      · intro z; omega
                  · have hq2 := hq2602_0 q (by omega)
                    have hO8 := hJP q (by omega)
                    rw [hF9 q hj]
                    by_cases hz : 0 ≤ (fa 6 3 q).toInt
                    · have hne : ((fa 6 3 q).toInt).toNat ≠ ((x2601_4 : Int32).toInt).toNat := by omega
                      rw [hF9 _ hne]; exact hq2
                    · constructor
                      · intro z
                        rcases hq2.mp z with z1 | z1
                        · exact Or.inl z1
                        · exact absurd z1.1 hz
                      · intro z
                        rcases z with z1 | z1
                        · exact hq2.mpr (Or.inl z1)
                        · exact absurd z1.1 hz)) (show ∀ q : Nat, (((q : Int) < (v2608 : Int32).toInt ∧ (f2605 q).toInt = 1 ∧ ((fa 6 5) q).toInt = -1) → w2601_a_6_5 q = d) ∧ (¬ ((q : Int) < (v2608 : Int32).toInt ∧ (f2605 q).toInt = 1 ∧ ((fa 6 5) q).toInt = -1) → w2601_a_6_5 q = (fa 6 5) q) from (by
                  have hk9 : ((((x2601_4 : Int32).toInt).toNat : Nat) : Int) = (x2601_4 : Int32).toInt := Int.toNat_of_nonneg (by omega)
                  have hO9 := hJP ((x2601_4 : Int32).toInt).toNat (by omega)
                  have hf9 : (f2605 ((x2601_4 : Int32).toInt).toNat).toInt = 1 := by rw [ef2605, show ((x2601_4 : Int32).toInt).toNat = (x2601_4 : Int32).toNatClampNeg from rfl, upd_eq] <;> decide
                  have hF9 : ∀ j : Nat, j ≠ ((x2601_4 : Int32).toInt).toNat → f2605 j = w2601_a_6_6 j := fun j hj => by rw [ef2605, upd_ne (show j ≠ (x2601_4 : Int32).toNatClampNeg from hj)]
                  have hl9 := congrArg Int32.toInt (show v2606 = f2605 ((x2601_4 : Int32).toInt).toNat from ev2606)
                  intro q
                  by_cases hj : q = ((x2601_4 : Int32).toInt).toNat
                  · rw [hj]
                    exact ⟨fun z => by exfalso; omega, fun _ => (hq2602_1 ((x2601_4 : Int32).toInt).toNat).2 (by omega)⟩
                  · rw [hF9 q hj]
                    have hq2 := hq2602_1 q
                    exact ⟨fun z => hq2.1 ⟨by omega, z.2⟩, fun z => hq2.2 (fun y => z ⟨by omega, y.2⟩)⟩)) (show (x2601_3 : Int32).toInt = (smC (fun q : Nat => (f2605 q).toInt = 1 ∧ ((fa 6 5) q).toInt = -1) ((v2608 : Int32).toInt).toNat).toInt from (by
                  have hq8 := hq2602_2
                  have hk9 : ((((x2601_4 : Int32).toInt).toNat : Nat) : Int) = (x2601_4 : Int32).toInt := Int.toNat_of_nonneg (by omega)
                  have hO9 := hJP ((x2601_4 : Int32).toInt).toNat (by omega)
                  have hf9 : (f2605 ((x2601_4 : Int32).toInt).toNat).toInt = 1 := by rw [ef2605, show ((x2601_4 : Int32).toInt).toNat = (x2601_4 : Int32).toNatClampNeg from rfl, upd_eq] <;> decide
                  have hF9 : ∀ j : Nat, j ≠ ((x2601_4 : Int32).toInt).toNat → f2605 j = w2601_a_6_6 j := fun j hj => by rw [ef2605, upd_ne (show j ≠ (x2601_4 : Int32).toNatClampNeg from hj)]
                  have hl9 := congrArg Int32.toInt (show v2606 = f2605 ((x2601_4 : Int32).toInt).toNat from ev2606)
                  have hs9 : ((v2608 : Int32).toInt).toNat = ((x2601_4 : Int32).toInt).toNat + 1 := by omega
                  have hc9 : smC (fun q : Nat => (f2605 q).toInt = 1 ∧ (fa 6 5 q).toInt = -1) ((x2601_4 : Int32).toInt).toNat = smC (fun q : Nat => (w2601_a_6_6 q).toInt = 1 ∧ (fa 6 5 q).toInt = -1) ((x2601_4 : Int32).toInt).toNat := smC_cg _ (fun j hj => by rw [hF9 j (by omega)])
                  rw [← hc9] at hq8
                  rw [smC_n hs9 (fun z => by have := z.1; have := z.2; omega)]; exact hq8)) (show (v2608 : Int32).toInt ≤ ((iv 6 7) : Int32).toInt from by omega) (by omega) _ _ ls hP hD hS (lv_sub hl [0, 1, 2, 3, 4] rfl)
          · have fc2607 := z_ne (rfl : (v2606).toInt = _) (by decide : (0 : Int32).toInt = 0) c2607
            refine lv_aload_n hx hb dX6_tear_71 rfl (lv_at hl 2 rfl) ?_
            refine lv_iload hx hb dX6_tear_72 (lv_at hl 0 rfl) ?_
            refine vp_callSi (W.runV (As := [.int x2601_4]) (rest := []) ⟨hx, hb, hml, hown, ht⟩ (c_X6_isUndone_w l dC dI h g ca iv lv (u2 (u2 fa 6 6 f2605) 6 5 w2601_a_6_5) la (IX_a (c := 6) (k := 5) (IX_a (c := 6) (k := 6) hI hf2605) hw2601_a_6_5) x2601_4 ⟨by omega, by omega⟩) (kV 1 ht m_1079 m_1080 m_1081 m_88 m_1082 rfl rfl hd_X6_isUndone_v ⟨Nat.le_of_ble_eq_true rfl, Nat.le_of_ble_eq_true rfl⟩) (vR hP hK (rX_6 hK hP)) rfl rfl hl.1 rfl (lv_room (Nat.le_of_ble_eq_true rfl)) dX6_tear_74 ⟨Nat.le_of_ble_eq_true rfl, Nat.le_of_ble_eq_true rfl⟩) (fun r2609 hr2609 => ?_)
            obtain ⟨hr2609, xr2609_0⟩ := hr2609
            have xr2609_0 : (((r2609 : Int32).toInt = 1 ∧ (w2601_a_6_5 ((x2601_4 : Int32).toInt).toNat).toInt ≠ -1) ∨ ((r2609 : Int32).toInt = 0 ∧ (w2601_a_6_5 ((x2601_4 : Int32).toInt).toNat).toInt = -1)) := xr2609_0
            refine lv_if_ne (tgt := 91) hx hb dX6_tear_77 (by decide) (fun c2610 => ?_) (fun c2610 => ?_)
            · have fc2610 := z_ne (rfl : (r2609).toInt = _) (by decide : (0 : Int32).toInt = 0) c2610
              obtain ⟨v2611, ev2611⟩ : ∃ y : Int32, y = x2601_4 + 1 := ⟨_, rfl⟩
              have tv2611 := z_add ev2611 rfl (by decide : (1 : Int32).toInt = 1) (by omega) (by omega)
              refine lv_iinc (v := v2611) (lv' := [(4, .int v2611), (3, .int x2601_3), (0, .ref (g 11 9)), (1, .int b), (2, .int d)]) hx hb dX6_tear_91 hl (k := 0) rfl (by rw [ev2611]; rfl) (by decide) rfl (fun ls hl => ?_)
              refine lv_goto (tgt := 5) hx hb dX6_tear_94 (by decide) ?_
              exact ih2602 v2611 x2601_3 f2605 w2601_a_6_5 ⟨by omega, by omega⟩ hf2605 hw2601_a_6_5 (show ∀ q : Nat, (q : Int) < (v2611 : Int32).toInt → ((f2605 q).toInt = 1 ↔ (q = ((b).toInt).toNat ∨ (0 ≤ ((fa 6 3) q).toInt ∧ (f2605 (((fa 6 3) q).toInt).toNat).toInt = 1))) from (by
                    have hk9 : ((((x2601_4 : Int32).toInt).toNat : Nat) : Int) = (x2601_4 : Int32).toInt := Int.toNat_of_nonneg (by omega)
                    have hO9 := hJP ((x2601_4 : Int32).toInt).toNat (by omega)
                    have hf9 : (f2605 ((x2601_4 : Int32).toInt).toNat).toInt = 1 := by rw [ef2605, show ((x2601_4 : Int32).toInt).toNat = (x2601_4 : Int32).toNatClampNeg from rfl, upd_eq] <;> decide
                    have hF9 : ∀ j : Nat, j ≠ ((x2601_4 : Int32).toInt).toNat → f2605 j = w2601_a_6_6 j := fun j hj => by rw [ef2605, upd_ne (show j ≠ (x2601_4 : Int32).toNatClampNeg from hj)]
                    have hl9 := congrArg Int32.toInt (show v2606 = f2605 ((x2601_4 : Int32).toInt).toNat from ev2606)
                    have hd9 : ((x2601_4 : Int32).toInt).toNat ≠ ((fa 6 3 ((x2601_4 : Int32).toInt).toNat).toInt).toNat ∨ (fa 6 3 ((x2601_4 : Int32).toInt).toNat).toInt < 0 := by omega
                    intro q hq
                    by_cases hj : q = ((x2601_4 : Int32).toInt).toNat
                    · rw [hj]
                      by_cases hz : 0 ≤ (fa 6 3 ((x2601_4 : Int32).toInt).toNat).toInt
                      · have hne : ((fa 6 3 ((x2601_4 : Int32).toInt).toNat).toInt).toNat ≠ ((x2601_4 : Int32).toInt).toNat := by omega
                        rw [hF9 _ hne]
                        constructor
                        · intro z; omega
                        · intro z; omega
                      · constructor
                        · intro z; omega
                        · intro z; omega
                    · have hq2 := hq2602_0 q (by omega)
                      have hO8 := hJP q (by omega)
                      rw [hF9 q hj]
                      by_cases hz : 0 ≤ (fa 6 3 q).toInt
                      · have hne : ((fa 6 3 q).toInt).toNat ≠ ((x2601_4 : Int32).toInt).toNat := by omega
                        rw [hF9 _ hne]; exact hq2
                      · constructor
                        · intro z
                          rcases hq2.mp z with z1 | z1
                          · exact Or.inl z1
                          · exact absurd z1.1 hz
                        · intro z
                          rcases z with z1 | z1
                          · exact hq2.mpr (Or.inl z1)
                          · exact absurd z1.1 hz)) (show ∀ q : Nat, (((q : Int) < (v2611 : Int32).toInt ∧ (f2605 q).toInt = 1 ∧ ((fa 6 5) q).toInt = -1) → w2601_a_6_5 q = d) ∧ (¬ ((q : Int) < (v2611 : Int32).toInt ∧ (f2605 q).toInt = 1 ∧ ((fa 6 5) q).toInt = -1) → w2601_a_6_5 q = (fa 6 5) q) from (by
                    have hk9 : ((((x2601_4 : Int32).toInt).toNat : Nat) : Int) = (x2601_4 : Int32).toInt := Int.toNat_of_nonneg (by omega)
                    have hO9 := hJP ((x2601_4 : Int32).toInt).toNat (by omega)
                    have hf9 : (f2605 ((x2601_4 : Int32).toInt).toNat).toInt = 1 := by rw [ef2605, show ((x2601_4 : Int32).toInt).toNat = (x2601_4 : Int32).toNatClampNeg from rfl, upd_eq] <;> decide
                    have hF9 : ∀ j : Nat, j ≠ ((x2601_4 : Int32).toInt).toNat → f2605 j = w2601_a_6_6 j := fun j hj => by rw [ef2605, upd_ne (show j ≠ (x2601_4 : Int32).toNatClampNeg from hj)]
                    have hl9 := congrArg Int32.toInt (show v2606 = f2605 ((x2601_4 : Int32).toInt).toNat from ev2606)
                    have hu9 := xr2609_0
                    have hU9 := (hq2602_1 ((x2601_4 : Int32).toInt).toNat).2 (by omega)
                    rw [hU9] at hu9
                    intro q
                    by_cases hj : q = ((x2601_4 : Int32).toInt).toNat
                    · rw [hj]
                      exact ⟨fun z => by exfalso; omega, fun _ => (hq2602_1 ((x2601_4 : Int32).toInt).toNat).2 (by omega)⟩
                    · rw [hF9 q hj]
                      have hq2 := hq2602_1 q
                      exact ⟨fun z => hq2.1 ⟨by omega, z.2⟩, fun z => hq2.2 (fun y => z ⟨by omega, y.2⟩)⟩)) (show (x2601_3 : Int32).toInt = (smC (fun q : Nat => (f2605 q).toInt = 1 ∧ ((fa 6 5) q).toInt = -1) ((v2611 : Int32).toInt).toNat).toInt from (by
                    have hq8 := hq2602_2
                    have hk9 : ((((x2601_4 : Int32).toInt).toNat : Nat) : Int) = (x2601_4 : Int32).toInt := Int.toNat_of_nonneg (by omega)
                    have hO9 := hJP ((x2601_4 : Int32).toInt).toNat (by omega)
                    have hf9 : (f2605 ((x2601_4 : Int32).toInt).toNat).toInt = 1 := by rw [ef2605, show ((x2601_4 : Int32).toInt).toNat = (x2601_4 : Int32).toNatClampNeg from rfl, upd_eq] <;> decide
                    have hF9 : ∀ j : Nat, j ≠ ((x2601_4 : Int32).toInt).toNat → f2605 j = w2601_a_6_6 j := fun j hj => by rw [ef2605, upd_ne (show j ≠ (x2601_4 : Int32).toNatClampNeg from hj)]
                    have hl9 := congrArg Int32.toInt (show v2606 = f2605 ((x2601_4 : Int32).toInt).toNat from ev2606)
                    have hu9 := xr2609_0
                    have hU9 := (hq2602_1 ((x2601_4 : Int32).toInt).toNat).2 (by omega)
                    rw [hU9] at hu9
                    have hs9 : ((v2611 : Int32).toInt).toNat = ((x2601_4 : Int32).toInt).toNat + 1 := by omega
                    have hc9 : smC (fun q : Nat => (f2605 q).toInt = 1 ∧ (fa 6 5 q).toInt = -1) ((x2601_4 : Int32).toInt).toNat = smC (fun q : Nat => (w2601_a_6_6 q).toInt = 1 ∧ (fa 6 5 q).toInt = -1) ((x2601_4 : Int32).toInt).toNat := smC_cg _ (fun j hj => by rw [hF9 j (by omega)])
                    rw [← hc9] at hq8
                    rw [smC_n hs9 (fun z => by have := z.1; have := z.2; omega)]; exact hq8)) (show (v2611 : Int32).toInt ≤ ((iv 6 7) : Int32).toInt from by omega) (by omega) _ _ ls hP hD hS (lv_sub hl [0, 1, 2, 3, 4] rfl)
            · have fc2610 := z_eq (rfl : (r2609).toInt = _) (by decide : (0 : Int32).toInt = 0) c2610
              refine lv_aload_n hx hb dX6_tear_80 rfl (lv_at hl 2 rfl) ?_
              refine gX_6_5 hx hb ht hown hK hP m_393 dX6_tear_81 ?_
              refine lv_iload hx hb dX6_tear_84 (lv_at hl 0 rfl) ?_
              refine lv_iload_n hx hb dX6_tear_86 rfl (lv_at hl 4 rfl) ?_
              refine tX_6_5 hx hb hK hP hD hS (f0 := w2601_a_6_5) rfl (i := x2601_4) (x := d) (vp_in_iff.mpr ⟨by omega, by omega⟩) dX6_tear_87 (fun f2612 ef2612 H locs hP hD hS => ?_)
              have hf2612 : ∀ j, inb (bA 6 5 j) (f2612 j) := fun j => full_i _
              have hP : va_P (dC, dI) classes (WX h g ca iv lv (u2 (u2 fa 6 6 f2605) 6 5 f2612) la) H := hP
              have hD : va_D A (WX h g ca iv lv (u2 (u2 fa 6 6 f2605) 6 5 f2612) la) := hD
              obtain ⟨v2613, ev2613⟩ : ∃ y : Int32, y = x2601_3 + 1 := ⟨_, rfl⟩
              refine lv_iinc (v := v2613) (lv' := [(3, .int v2613), (4, .int x2601_4), (0, .ref (g 11 9)), (1, .int b), (2, .int d)]) hx hb dX6_tear_88 hl (k := 1) rfl (by rw [ev2613]; rfl) (by decide) rfl (fun ls hl => ?_)
              obtain ⟨v2614, ev2614⟩ : ∃ y : Int32, y = x2601_4 + 1 := ⟨_, rfl⟩
              have tv2614 := z_add ev2614 rfl (by decide : (1 : Int32).toInt = 1) (by omega) (by omega)
              refine lv_iinc (v := v2614) (lv' := [(4, .int v2614), (3, .int v2613), (0, .ref (g 11 9)), (1, .int b), (2, .int d)]) hx hb dX6_tear_91 hl (k := 1) rfl (by rw [ev2614]; rfl) (by decide) rfl (fun ls hl => ?_)
              refine lv_goto (tgt := 5) hx hb dX6_tear_94 (by decide) ?_
              exact ih2602 v2614 v2613 f2605 f2612 ⟨by omega, by omega⟩ hf2605 hf2612 (show ∀ q : Nat, (q : Int) < (v2614 : Int32).toInt → ((f2605 q).toInt = 1 ↔ (q = ((b).toInt).toNat ∨ (0 ≤ ((fa 6 3) q).toInt ∧ (f2605 (((fa 6 3) q).toInt).toNat).toInt = 1))) from (by
                    have hk9 : ((((x2601_4 : Int32).toInt).toNat : Nat) : Int) = (x2601_4 : Int32).toInt := Int.toNat_of_nonneg (by omega)
                    have hO9 := hJP ((x2601_4 : Int32).toInt).toNat (by omega)
                    have hf9 : (f2605 ((x2601_4 : Int32).toInt).toNat).toInt = 1 := by rw [ef2605, show ((x2601_4 : Int32).toInt).toNat = (x2601_4 : Int32).toNatClampNeg from rfl, upd_eq] <;> decide
                    have hF9 : ∀ j : Nat, j ≠ ((x2601_4 : Int32).toInt).toNat → f2605 j = w2601_a_6_6 j := fun j hj => by rw [ef2605, upd_ne (show j ≠ (x2601_4 : Int32).toNatClampNeg from hj)]
                    have hl9 := congrArg Int32.toInt (show v2606 = f2605 ((x2601_4 : Int32).toInt).toNat from ev2606)
                    have hd9 : ((x2601_4 : Int32).toInt).toNat ≠ ((fa 6 3 ((x2601_4 : Int32).toInt).toNat).toInt).toNat ∨ (fa 6 3 ((x2601_4 : Int32).toInt).toNat).toInt < 0 := by omega
                    intro q hq
                    by_cases hj : q = ((x2601_4 : Int32).toInt).toNat
                    · rw [hj]
                      by_cases hz : 0 ≤ (fa 6 3 ((x2601_4 : Int32).toInt).toNat).toInt
                      · have hne : ((fa 6 3 ((x2601_4 : Int32).toInt).toNat).toInt).toNat ≠ ((x2601_4 : Int32).toInt).toNat := by omega
                        rw [hF9 _ hne]
                        constructor
                        · intro z; omega
                        · intro z; omega
                      · constructor
                        · intro z; omega
                        · intro z; omega
                    · have hq2 := hq2602_0 q (by omega)
                      have hO8 := hJP q (by omega)
                      rw [hF9 q hj]
                      by_cases hz : 0 ≤ (fa 6 3 q).toInt
                      · have hne : ((fa 6 3 q).toInt).toNat ≠ ((x2601_4 : Int32).toInt).toNat := by omega
                        rw [hF9 _ hne]; exact hq2
                      · constructor
                        · intro z
                          rcases hq2.mp z with z1 | z1
                          · exact Or.inl z1
                          · exact absurd z1.1 hz
                        · intro z
                          rcases z with z1 | z1
                          · exact hq2.mpr (Or.inl z1)
                          · exact absurd z1.1 hz)) (show ∀ q : Nat, (((q : Int) < (v2614 : Int32).toInt ∧ (f2605 q).toInt = 1 ∧ ((fa 6 5) q).toInt = -1) → f2612 q = d) ∧ (¬ ((q : Int) < (v2614 : Int32).toInt ∧ (f2605 q).toInt = 1 ∧ ((fa 6 5) q).toInt = -1) → f2612 q = (fa 6 5) q) from (by
                    have hk9 : ((((x2601_4 : Int32).toInt).toNat : Nat) : Int) = (x2601_4 : Int32).toInt := Int.toNat_of_nonneg (by omega)
                    have hO9 := hJP ((x2601_4 : Int32).toInt).toNat (by omega)
                    have hf9 : (f2605 ((x2601_4 : Int32).toInt).toNat).toInt = 1 := by rw [ef2605, show ((x2601_4 : Int32).toInt).toNat = (x2601_4 : Int32).toNatClampNeg from rfl, upd_eq] <;> decide
                    have hF9 : ∀ j : Nat, j ≠ ((x2601_4 : Int32).toInt).toNat → f2605 j = w2601_a_6_6 j := fun j hj => by rw [ef2605, upd_ne (show j ≠ (x2601_4 : Int32).toNatClampNeg from hj)]
                    have hl9 := congrArg Int32.toInt (show v2606 = f2605 ((x2601_4 : Int32).toInt).toNat from ev2606)
                    have hu9 := xr2609_0
                    have hU9 := (hq2602_1 ((x2601_4 : Int32).toInt).toNat).2 (by omega)
                    rw [hU9] at hu9
                    have ha9 : f2612 ((x2601_4 : Int32).toInt).toNat = d := by rw [ef2612, show ((x2601_4 : Int32).toInt).toNat = (x2601_4 : Int32).toNatClampNeg from rfl, upd_eq]
                    have hA9 : ∀ j : Nat, j ≠ ((x2601_4 : Int32).toInt).toNat → f2612 j = w2601_a_6_5 j := fun j hj => by rw [ef2612, upd_ne (show j ≠ (x2601_4 : Int32).toNatClampNeg from hj)]
                    intro q
                    by_cases hj : q = ((x2601_4 : Int32).toInt).toNat
                    · rw [hj]
                      exact ⟨fun _ => ha9, fun z => absurd ⟨by omega, by omega, by omega⟩ z⟩
                    · rw [hA9 q hj, hF9 q hj]
                      have hq2 := hq2602_1 q
                      exact ⟨fun z => hq2.1 ⟨by omega, z.2⟩, fun z => hq2.2 (fun y => z ⟨by omega, y.2⟩)⟩)) (show (v2613 : Int32).toInt = (smC (fun q : Nat => (f2605 q).toInt = 1 ∧ ((fa 6 5) q).toInt = -1) ((v2614 : Int32).toInt).toNat).toInt from (by
                    have hq8 := hq2602_2
                    have hk9 : ((((x2601_4 : Int32).toInt).toNat : Nat) : Int) = (x2601_4 : Int32).toInt := Int.toNat_of_nonneg (by omega)
                    have hO9 := hJP ((x2601_4 : Int32).toInt).toNat (by omega)
                    have hf9 : (f2605 ((x2601_4 : Int32).toInt).toNat).toInt = 1 := by rw [ef2605, show ((x2601_4 : Int32).toInt).toNat = (x2601_4 : Int32).toNatClampNeg from rfl, upd_eq] <;> decide
                    have hF9 : ∀ j : Nat, j ≠ ((x2601_4 : Int32).toInt).toNat → f2605 j = w2601_a_6_6 j := fun j hj => by rw [ef2605, upd_ne (show j ≠ (x2601_4 : Int32).toNatClampNeg from hj)]
                    have hl9 := congrArg Int32.toInt (show v2606 = f2605 ((x2601_4 : Int32).toInt).toNat from ev2606)
                    have hu9 := xr2609_0
                    have hU9 := (hq2602_1 ((x2601_4 : Int32).toInt).toNat).2 (by omega)
                    rw [hU9] at hu9
                    have hs9 : ((v2614 : Int32).toInt).toNat = ((x2601_4 : Int32).toInt).toNat + 1 := by omega
                    have hc9 : smC (fun q : Nat => (f2605 q).toInt = 1 ∧ (fa 6 5 q).toInt = -1) ((x2601_4 : Int32).toInt).toNat = smC (fun q : Nat => (w2601_a_6_6 q).toInt = 1 ∧ (fa 6 5 q).toInt = -1) ((x2601_4 : Int32).toInt).toNat := smC_cg _ (fun j hj => by rw [hF9 j (by omega)])
                    rw [← hc9] at hq8
                    have h1 : x2601_3 = smC _ _ := Int32.toInt_inj.mp hq8
                    rw [smC_y hs9 ⟨by omega, by omega⟩, ← h1, ev2613])) (show (v2614 : Int32).toInt ≤ ((iv 6 7) : Int32).toInt from by omega) (by omega) _ _ ls hP hD hS (lv_sub hl [0, 1, 2, 3, 4] rfl)
        · have fc2604 := z_ne (rfl : (x2601_4).toInt = _) (rfl : (b).toInt = _) c2604
          refine lv_aload_n hx hb dX6_tear_26 rfl (lv_at hl 2 rfl) ?_
          refine lv_aload_n hx hb dX6_tear_27 rfl (lv_at hl 2 rfl) ?_
          refine gX_6_3 hx hb ht hown hK hP m_389 dX6_tear_28 ?_
          refine lv_iload hx hb dX6_tear_31 (lv_at hl 0 rfl) ?_
          refine lX_6_3 hx hb hK hP (f := (fa 6 3)) rfl (vp_in_iff.mpr ⟨by omega, by omega⟩) dX6_tear_33 ?_
          refine lv_topi (fun v2615 ev2615 => ?_)
          have tv2615 : (-1) ≤ v2615.toInt ∧ v2615.toInt ≤ 39 := by rw [ev2615]; exact hI.2 6 3 _
          refine vp_callSi (W.runV (As := [.int v2615]) (rest := [.int x2601_4, .ref (g 6 6)]) ⟨hx, hb, hml, hown, ht⟩ (c_X6_has l dC dI h g ca iv lv (u2 (u2 fa 6 6 w2601_a_6_6) 6 5 w2601_a_6_5) la (IX_a (c := 6) (k := 5) (IX_a (c := 6) (k := 6) hI hw2601_a_6_6) hw2601_a_6_5) v2615) (kV 1 ht m_1116 m_1096 m_1097 m_88 m_1098 rfl rfl hd_X6_has_v ⟨Nat.le_of_ble_eq_true rfl, Nat.le_of_ble_eq_true rfl⟩) (vR hP hK (rX_6 hK hP)) rfl rfl hl.1 rfl (lv_room (Nat.le_of_ble_eq_true rfl)) dX6_tear_34 ⟨Nat.le_of_ble_eq_true rfl, Nat.le_of_ble_eq_true rfl⟩) (fun r2616 hr2616 => ?_)
          rcases hr2616 with ⟨rfl, fr2616⟩ | ⟨rfl, fr2616⟩
          · skip
            have fr2616 : (0 ≤ (v2615 : Int32).toInt ∧ (v2615 : Int32).toInt < ((iv 6 7) : Int32).toInt) := fr2616
            refine lv_if_eq (tgt := 59) hx hb dX6_tear_37 (by decide) (fun c2617 => ?_) (fun c2617 => ?_)
            · exact absurd c2617 (by decide)
            · skip
              refine lv_aload_n hx hb dX6_tear_40 rfl (lv_at hl 2 rfl) ?_
              refine gX_6_6 hx hb ht hown hK hP m_395 dX6_tear_41 ?_
              refine lv_aload_n hx hb dX6_tear_44 rfl (lv_at hl 2 rfl) ?_
              refine gX_6_3 hx hb ht hown hK hP m_389 dX6_tear_45 ?_
              refine lv_iload hx hb dX6_tear_48 (lv_at hl 0 rfl) ?_
              refine lX_6_3 hx hb hK hP (f := (fa 6 3)) rfl (vp_in_iff.mpr ⟨by omega, by omega⟩) dX6_tear_50 ?_
              refine lv_topi (fun v2618 ev2618 => ?_)
              obtain rfl : v2615 = v2618 := ev2615.trans ev2618.symm
              refine lX_6_6 hx hb hK hP (f := w2601_a_6_6) rfl (vp_in_iff.mpr ⟨by omega, by omega⟩) dX6_tear_51 ?_
              refine lv_topi (fun v2619 ev2619 => ?_)
              have tv2619 : 0 ≤ v2619.toInt ∧ v2619.toInt ≤ 1 := by rw [ev2619]; exact hw2601_a_6_6 _
              refine lv_if_eq (tgt := 59) hx hb dX6_tear_52 (by decide) (fun c2620 => ?_) (fun c2620 => ?_)
              · have fc2620 := z_eq (rfl : (v2619).toInt = _) (by decide : (0 : Int32).toInt = 0) c2620
                refine lv_iconst (v := 0) hx hb dX6_tear_59 (by decide) ?_
                refine tX_6_6 hx hb hK hP hD hS (f0 := w2601_a_6_6) rfl (i := x2601_4) (x := 0) (vp_in_iff.mpr ⟨by omega, by omega⟩) dX6_tear_60 (fun f2621 ef2621 H locs hP hD hS => ?_)
                have hf2621 : ∀ j, inb (bA 6 6 j) (f2621 j) := by rw [ef2621]; exact upd_b (b := bA 6 6) hw2601_a_6_6 (show inb (0, 1) (vp_nar .boolean 0) from ⟨by decide, by decide⟩)
                have hP : va_P (dC, dI) classes (WX h g ca iv lv (u2 (u2 fa 6 6 f2621) 6 5 w2601_a_6_5) la) H := hP
                have hD : va_D A (WX h g ca iv lv (u2 (u2 fa 6 6 f2621) 6 5 w2601_a_6_5) la) := hD
                refine lv_aload_n hx hb dX6_tear_61 rfl (lv_at hl 2 rfl) ?_
                refine gX_6_6 hx hb ht hown hK hP m_395 dX6_tear_62 ?_
                refine lv_iload hx hb dX6_tear_65 (lv_at hl 0 rfl) ?_
                refine lX_6_6 hx hb hK hP (f := f2621) rfl (vp_in_iff.mpr ⟨by omega, by omega⟩) dX6_tear_67 ?_
                refine lv_topi (fun v2622 ev2622 => ?_)
                have tv2622 : 0 ≤ v2622.toInt ∧ v2622.toInt ≤ 1 := by rw [ev2622]; exact hf2621 _
                refine lv_if_eq (tgt := 91) hx hb dX6_tear_68 (by decide) (fun c2623 => ?_) (fun c2623 => ?_)
                · have fc2623 := z_eq (rfl : (v2622).toInt = _) (by decide : (0 : Int32).toInt = 0) c2623
                  obtain ⟨v2624, ev2624⟩ : ∃ y : Int32, y = x2601_4 + 1 := ⟨_, rfl⟩
                  have tv2624 := z_add ev2624 rfl (by decide : (1 : Int32).toInt = 1) (by omega) (by omega)
                  refine lv_iinc (v := v2624) (lv' := [(4, .int v2624), (3, .int x2601_3), (0, .ref (g 11 9)), (1, .int b), (2, .int d)]) hx hb dX6_tear_91 hl (k := 0) rfl (by rw [ev2624]; rfl) (by decide) rfl (fun ls hl => ?_)
                  refine lv_goto (tgt := 5) hx hb dX6_tear_94 (by decide) ?_
                  exact ih2602 v2624 x2601_3 f2621 w2601_a_6_5 ⟨by omega, by omega⟩ hf2621 hw2601_a_6_5 (show ∀ q : Nat, (q : Int) < (v2624 : Int32).toInt → ((f2621 q).toInt = 1 ↔ (q = ((b).toInt).toNat ∨ (0 ≤ ((fa 6 3) q).toInt ∧ (f2621 (((fa 6 3) q).toInt).toNat).toInt = 1))) from (by
                        have hk9 : ((((x2601_4 : Int32).toInt).toNat : Nat) : Int) = (x2601_4 : Int32).toInt := Int.toNat_of_nonneg (by omega)
                        have hO9 := hJP ((x2601_4 : Int32).toInt).toNat (by omega)
                        have hf9 : (f2621 ((x2601_4 : Int32).toInt).toNat).toInt = 0 := by rw [ef2621, show ((x2601_4 : Int32).toInt).toNat = (x2601_4 : Int32).toNatClampNeg from rfl, upd_eq] <;> decide
                        have hF9 : ∀ j : Nat, j ≠ ((x2601_4 : Int32).toInt).toNat → f2621 j = w2601_a_6_6 j := fun j hj => by rw [ef2621, upd_ne (show j ≠ (x2601_4 : Int32).toNatClampNeg from hj)]
                        have hl9 := congrArg Int32.toInt (show v2622 = f2621 ((x2601_4 : Int32).toInt).toNat from ev2622)
                        have ho9 := congrArg Int32.toInt (show v2615 = fa 6 3 ((x2601_4 : Int32).toInt).toNat from ev2615)
                        have hv9 := congrArg Int32.toInt (show v2619 = w2601_a_6_6 ((v2615 : Int32).toInt).toNat from ev2619)
                        rw [show (v2615 : Int32).toInt = (fa 6 3 ((x2601_4 : Int32).toInt).toNat).toInt from by omega] at hv9
                        have hd9 : ((x2601_4 : Int32).toInt).toNat ≠ ((fa 6 3 ((x2601_4 : Int32).toInt).toNat).toInt).toNat ∨ (fa 6 3 ((x2601_4 : Int32).toInt).toNat).toInt < 0 := by omega
                        intro q hq
                        by_cases hj : q = ((x2601_4 : Int32).toInt).toNat
                        · rw [hj]
                          by_cases hz : 0 ≤ (fa 6 3 ((x2601_4 : Int32).toInt).toNat).toInt
                          · have hne : ((fa 6 3 ((x2601_4 : Int32).toInt).toNat).toInt).toNat ≠ ((x2601_4 : Int32).toInt).toNat := by omega
                            rw [hF9 _ hne]
                            constructor
                            · intro z; omega
                            · intro z; omega
                          · constructor
                            · intro z; omega
                            · intro z; omega
                        · have hq2 := hq2602_0 q (by omega)
                          have hO8 := hJP q (by omega)
                          rw [hF9 q hj]
                          by_cases hz : 0 ≤ (fa 6 3 q).toInt
                          · have hne : ((fa 6 3 q).toInt).toNat ≠ ((x2601_4 : Int32).toInt).toNat := by omega
                            rw [hF9 _ hne]; exact hq2
                          · constructor
                            · intro z
                              rcases hq2.mp z with z1 | z1
                              · exact Or.inl z1
                              · exact absurd z1.1 hz
                            · intro z
                              rcases z with z1 | z1
                              · exact hq2.mpr (Or.inl z1)
                              · exact absurd z1.1 hz)) (show ∀ q : Nat, (((q : Int) < (v2624 : Int32).toInt ∧ (f2621 q).toInt = 1 ∧ ((fa 6 5) q).toInt = -1) → w2601_a_6_5 q = d) ∧ (¬ ((q : Int) < (v2624 : Int32).toInt ∧ (f2621 q).toInt = 1 ∧ ((fa 6 5) q).toInt = -1) → w2601_a_6_5 q = (fa 6 5) q) from (by
                        have hk9 : ((((x2601_4 : Int32).toInt).toNat : Nat) : Int) = (x2601_4 : Int32).toInt := Int.toNat_of_nonneg (by omega)
                        have hO9 := hJP ((x2601_4 : Int32).toInt).toNat (by omega)
                        have hf9 : (f2621 ((x2601_4 : Int32).toInt).toNat).toInt = 0 := by rw [ef2621, show ((x2601_4 : Int32).toInt).toNat = (x2601_4 : Int32).toNatClampNeg from rfl, upd_eq] <;> decide
                        have hF9 : ∀ j : Nat, j ≠ ((x2601_4 : Int32).toInt).toNat → f2621 j = w2601_a_6_6 j := fun j hj => by rw [ef2621, upd_ne (show j ≠ (x2601_4 : Int32).toNatClampNeg from hj)]
                        have hl9 := congrArg Int32.toInt (show v2622 = f2621 ((x2601_4 : Int32).toInt).toNat from ev2622)
                        have ho9 := congrArg Int32.toInt (show v2615 = fa 6 3 ((x2601_4 : Int32).toInt).toNat from ev2615)
                        have hv9 := congrArg Int32.toInt (show v2619 = w2601_a_6_6 ((v2615 : Int32).toInt).toNat from ev2619)
                        rw [show (v2615 : Int32).toInt = (fa 6 3 ((x2601_4 : Int32).toInt).toNat).toInt from by omega] at hv9
                        intro q
                        by_cases hj : q = ((x2601_4 : Int32).toInt).toNat
                        · rw [hj]
                          exact ⟨fun z => by exfalso; omega, fun _ => (hq2602_1 ((x2601_4 : Int32).toInt).toNat).2 (by omega)⟩
                        · rw [hF9 q hj]
                          have hq2 := hq2602_1 q
                          exact ⟨fun z => hq2.1 ⟨by omega, z.2⟩, fun z => hq2.2 (fun y => z ⟨by omega, y.2⟩)⟩)) (show (x2601_3 : Int32).toInt = (smC (fun q : Nat => (f2621 q).toInt = 1 ∧ ((fa 6 5) q).toInt = -1) ((v2624 : Int32).toInt).toNat).toInt from (by
                        have hq8 := hq2602_2
                        have hk9 : ((((x2601_4 : Int32).toInt).toNat : Nat) : Int) = (x2601_4 : Int32).toInt := Int.toNat_of_nonneg (by omega)
                        have hO9 := hJP ((x2601_4 : Int32).toInt).toNat (by omega)
                        have hf9 : (f2621 ((x2601_4 : Int32).toInt).toNat).toInt = 0 := by rw [ef2621, show ((x2601_4 : Int32).toInt).toNat = (x2601_4 : Int32).toNatClampNeg from rfl, upd_eq] <;> decide
                        have hF9 : ∀ j : Nat, j ≠ ((x2601_4 : Int32).toInt).toNat → f2621 j = w2601_a_6_6 j := fun j hj => by rw [ef2621, upd_ne (show j ≠ (x2601_4 : Int32).toNatClampNeg from hj)]
                        have hl9 := congrArg Int32.toInt (show v2622 = f2621 ((x2601_4 : Int32).toInt).toNat from ev2622)
                        have ho9 := congrArg Int32.toInt (show v2615 = fa 6 3 ((x2601_4 : Int32).toInt).toNat from ev2615)
                        have hv9 := congrArg Int32.toInt (show v2619 = w2601_a_6_6 ((v2615 : Int32).toInt).toNat from ev2619)
                        rw [show (v2615 : Int32).toInt = (fa 6 3 ((x2601_4 : Int32).toInt).toNat).toInt from by omega] at hv9
                        have hs9 : ((v2624 : Int32).toInt).toNat = ((x2601_4 : Int32).toInt).toNat + 1 := by omega
                        have hc9 : smC (fun q : Nat => (f2621 q).toInt = 1 ∧ (fa 6 5 q).toInt = -1) ((x2601_4 : Int32).toInt).toNat = smC (fun q : Nat => (w2601_a_6_6 q).toInt = 1 ∧ (fa 6 5 q).toInt = -1) ((x2601_4 : Int32).toInt).toNat := smC_cg _ (fun j hj => by rw [hF9 j (by omega)])
                        rw [← hc9] at hq8
                        rw [smC_n hs9 (fun z => by have := z.1; have := z.2; omega)]; exact hq8)) (show (v2624 : Int32).toInt ≤ ((iv 6 7) : Int32).toInt from by omega) (by omega) _ _ ls hP hD hS (lv_sub hl [0, 1, 2, 3, 4] rfl)
                · have fc2623 := z_ne (rfl : (v2622).toInt = _) (by decide : (0 : Int32).toInt = 0) c2623
                  refine lv_aload_n hx hb dX6_tear_71 rfl (lv_at hl 2 rfl) ?_
                  refine lv_iload hx hb dX6_tear_72 (lv_at hl 0 rfl) ?_
                  refine vp_callSi (W.runV (As := [.int x2601_4]) (rest := []) ⟨hx, hb, hml, hown, ht⟩ (c_X6_isUndone_w l dC dI h g ca iv lv (u2 (u2 fa 6 6 f2621) 6 5 w2601_a_6_5) la (IX_a (c := 6) (k := 5) (IX_a (c := 6) (k := 6) hI hf2621) hw2601_a_6_5) x2601_4 ⟨by omega, by omega⟩) (kV 1 ht m_1079 m_1080 m_1081 m_88 m_1082 rfl rfl hd_X6_isUndone_v ⟨Nat.le_of_ble_eq_true rfl, Nat.le_of_ble_eq_true rfl⟩) (vR hP hK (rX_6 hK hP)) rfl rfl hl.1 rfl (lv_room (Nat.le_of_ble_eq_true rfl)) dX6_tear_74 ⟨Nat.le_of_ble_eq_true rfl, Nat.le_of_ble_eq_true rfl⟩) (fun r2625 hr2625 => ?_)
                  obtain ⟨hr2625, xr2625_0⟩ := hr2625
                  have xr2625_0 : (((r2625 : Int32).toInt = 1 ∧ (w2601_a_6_5 ((x2601_4 : Int32).toInt).toNat).toInt ≠ -1) ∨ ((r2625 : Int32).toInt = 0 ∧ (w2601_a_6_5 ((x2601_4 : Int32).toInt).toNat).toInt = -1)) := xr2625_0
                  refine lv_if_ne (tgt := 91) hx hb dX6_tear_77 (by decide) (fun c2626 => ?_) (fun c2626 => ?_)
                  · have fc2626 := z_ne (rfl : (r2625).toInt = _) (by decide : (0 : Int32).toInt = 0) c2626
                    obtain ⟨v2627, ev2627⟩ : ∃ y : Int32, y = x2601_4 + 1 := ⟨_, rfl⟩
                    have tv2627 := z_add ev2627 rfl (by decide : (1 : Int32).toInt = 1) (by omega) (by omega)
                    refine lv_iinc (v := v2627) (lv' := [(4, .int v2627), (3, .int x2601_3), (0, .ref (g 11 9)), (1, .int b), (2, .int d)]) hx hb dX6_tear_91 hl (k := 0) rfl (by rw [ev2627]; rfl) (by decide) rfl (fun ls hl => ?_)
                    refine lv_goto (tgt := 5) hx hb dX6_tear_94 (by decide) ?_
                    exact ih2602 v2627 x2601_3 f2621 w2601_a_6_5 ⟨by omega, by omega⟩ hf2621 hw2601_a_6_5 (show ∀ q : Nat, (q : Int) < (v2627 : Int32).toInt → ((f2621 q).toInt = 1 ↔ (q = ((b).toInt).toNat ∨ (0 ≤ ((fa 6 3) q).toInt ∧ (f2621 (((fa 6 3) q).toInt).toNat).toInt = 1))) from (by
                          have hk9 : ((((x2601_4 : Int32).toInt).toNat : Nat) : Int) = (x2601_4 : Int32).toInt := Int.toNat_of_nonneg (by omega)
                          have hO9 := hJP ((x2601_4 : Int32).toInt).toNat (by omega)
                          have hf9 : (f2621 ((x2601_4 : Int32).toInt).toNat).toInt = 0 := by rw [ef2621, show ((x2601_4 : Int32).toInt).toNat = (x2601_4 : Int32).toNatClampNeg from rfl, upd_eq] <;> decide
                          have hF9 : ∀ j : Nat, j ≠ ((x2601_4 : Int32).toInt).toNat → f2621 j = w2601_a_6_6 j := fun j hj => by rw [ef2621, upd_ne (show j ≠ (x2601_4 : Int32).toNatClampNeg from hj)]
                          have hl9 := congrArg Int32.toInt (show v2622 = f2621 ((x2601_4 : Int32).toInt).toNat from ev2622)
                          have ho9 := congrArg Int32.toInt (show v2615 = fa 6 3 ((x2601_4 : Int32).toInt).toNat from ev2615)
                          have hv9 := congrArg Int32.toInt (show v2619 = w2601_a_6_6 ((v2615 : Int32).toInt).toNat from ev2619)
                          rw [show (v2615 : Int32).toInt = (fa 6 3 ((x2601_4 : Int32).toInt).toNat).toInt from by omega] at hv9
                          have hd9 : ((x2601_4 : Int32).toInt).toNat ≠ ((fa 6 3 ((x2601_4 : Int32).toInt).toNat).toInt).toNat ∨ (fa 6 3 ((x2601_4 : Int32).toInt).toNat).toInt < 0 := by omega
                          intro q hq
                          by_cases hj : q = ((x2601_4 : Int32).toInt).toNat
                          · rw [hj]
                            by_cases hz : 0 ≤ (fa 6 3 ((x2601_4 : Int32).toInt).toNat).toInt
                            · have hne : ((fa 6 3 ((x2601_4 : Int32).toInt).toNat).toInt).toNat ≠ ((x2601_4 : Int32).toInt).toNat := by omega
                              rw [hF9 _ hne]
                              constructor
                              · intro z; omega
                              · intro z; omega
                            · constructor
                              · intro z; omega
                              · intro z; omega
                          · have hq2 := hq2602_0 q (by omega)
                            have hO8 := hJP q (by omega)
                            rw [hF9 q hj]
                            by_cases hz : 0 ≤ (fa 6 3 q).toInt
                            · have hne : ((fa 6 3 q).toInt).toNat ≠ ((x2601_4 : Int32).toInt).toNat := by omega
                              rw [hF9 _ hne]; exact hq2
                            · constructor
                              · intro z
                                rcases hq2.mp z with z1 | z1
                                · exact Or.inl z1
                                · exact absurd z1.1 hz
                              · intro z
                                rcases z with z1 | z1
                                · exact hq2.mpr (Or.inl z1)
                                · exact absurd z1.1 hz)) (show ∀ q : Nat, (((q : Int) < (v2627 : Int32).toInt ∧ (f2621 q).toInt = 1 ∧ ((fa 6 5) q).toInt = -1) → w2601_a_6_5 q = d) ∧ (¬ ((q : Int) < (v2627 : Int32).toInt ∧ (f2621 q).toInt = 1 ∧ ((fa 6 5) q).toInt = -1) → w2601_a_6_5 q = (fa 6 5) q) from (by
                          have hk9 : ((((x2601_4 : Int32).toInt).toNat : Nat) : Int) = (x2601_4 : Int32).toInt := Int.toNat_of_nonneg (by omega)
                          have hO9 := hJP ((x2601_4 : Int32).toInt).toNat (by omega)
                          have hf9 : (f2621 ((x2601_4 : Int32).toInt).toNat).toInt = 0 := by rw [ef2621, show ((x2601_4 : Int32).toInt).toNat = (x2601_4 : Int32).toNatClampNeg from rfl, upd_eq] <;> decide
                          have hF9 : ∀ j : Nat, j ≠ ((x2601_4 : Int32).toInt).toNat → f2621 j = w2601_a_6_6 j := fun j hj => by rw [ef2621, upd_ne (show j ≠ (x2601_4 : Int32).toNatClampNeg from hj)]
                          have hl9 := congrArg Int32.toInt (show v2622 = f2621 ((x2601_4 : Int32).toInt).toNat from ev2622)
                          have ho9 := congrArg Int32.toInt (show v2615 = fa 6 3 ((x2601_4 : Int32).toInt).toNat from ev2615)
                          have hv9 := congrArg Int32.toInt (show v2619 = w2601_a_6_6 ((v2615 : Int32).toInt).toNat from ev2619)
                          rw [show (v2615 : Int32).toInt = (fa 6 3 ((x2601_4 : Int32).toInt).toNat).toInt from by omega] at hv9
                          have hu9 := xr2625_0
                          have hU9 := (hq2602_1 ((x2601_4 : Int32).toInt).toNat).2 (by omega)
                          rw [hU9] at hu9
                          intro q
                          by_cases hj : q = ((x2601_4 : Int32).toInt).toNat
                          · rw [hj]
                            exact ⟨fun z => by exfalso; omega, fun _ => (hq2602_1 ((x2601_4 : Int32).toInt).toNat).2 (by omega)⟩
                          · rw [hF9 q hj]
                            have hq2 := hq2602_1 q
                            exact ⟨fun z => hq2.1 ⟨by omega, z.2⟩, fun z => hq2.2 (fun y => z ⟨by omega, y.2⟩)⟩)) (show (x2601_3 : Int32).toInt = (smC (fun q : Nat => (f2621 q).toInt = 1 ∧ ((fa 6 5) q).toInt = -1) ((v2627 : Int32).toInt).toNat).toInt from (by
                          have hq8 := hq2602_2
                          have hk9 : ((((x2601_4 : Int32).toInt).toNat : Nat) : Int) = (x2601_4 : Int32).toInt := Int.toNat_of_nonneg (by omega)
                          have hO9 := hJP ((x2601_4 : Int32).toInt).toNat (by omega)
                          have hf9 : (f2621 ((x2601_4 : Int32).toInt).toNat).toInt = 0 := by rw [ef2621, show ((x2601_4 : Int32).toInt).toNat = (x2601_4 : Int32).toNatClampNeg from rfl, upd_eq] <;> decide
                          have hF9 : ∀ j : Nat, j ≠ ((x2601_4 : Int32).toInt).toNat → f2621 j = w2601_a_6_6 j := fun j hj => by rw [ef2621, upd_ne (show j ≠ (x2601_4 : Int32).toNatClampNeg from hj)]
                          have hl9 := congrArg Int32.toInt (show v2622 = f2621 ((x2601_4 : Int32).toInt).toNat from ev2622)
                          have ho9 := congrArg Int32.toInt (show v2615 = fa 6 3 ((x2601_4 : Int32).toInt).toNat from ev2615)
                          have hv9 := congrArg Int32.toInt (show v2619 = w2601_a_6_6 ((v2615 : Int32).toInt).toNat from ev2619)
                          rw [show (v2615 : Int32).toInt = (fa 6 3 ((x2601_4 : Int32).toInt).toNat).toInt from by omega] at hv9
                          have hu9 := xr2625_0
                          have hU9 := (hq2602_1 ((x2601_4 : Int32).toInt).toNat).2 (by omega)
                          rw [hU9] at hu9
                          have hs9 : ((v2627 : Int32).toInt).toNat = ((x2601_4 : Int32).toInt).toNat + 1 := by omega
                          have hc9 : smC (fun q : Nat => (f2621 q).toInt = 1 ∧ (fa 6 5 q).toInt = -1) ((x2601_4 : Int32).toInt).toNat = smC (fun q : Nat => (w2601_a_6_6 q).toInt = 1 ∧ (fa 6 5 q).toInt = -1) ((x2601_4 : Int32).toInt).toNat := smC_cg _ (fun j hj => by rw [hF9 j (by omega)])
                          rw [← hc9] at hq8
                          rw [smC_n hs9 (fun z => by have := z.1; have := z.2; omega)]; exact hq8)) (show (v2627 : Int32).toInt ≤ ((iv 6 7) : Int32).toInt from by omega) (by omega) _ _ ls hP hD hS (lv_sub hl [0, 1, 2, 3, 4] rfl)
                  · have fc2626 := z_eq (rfl : (r2625).toInt = _) (by decide : (0 : Int32).toInt = 0) c2626
                    refine lv_aload_n hx hb dX6_tear_80 rfl (lv_at hl 2 rfl) ?_
                    refine gX_6_5 hx hb ht hown hK hP m_393 dX6_tear_81 ?_
                    refine lv_iload hx hb dX6_tear_84 (lv_at hl 0 rfl) ?_
                    refine lv_iload_n hx hb dX6_tear_86 rfl (lv_at hl 4 rfl) ?_
                    refine tX_6_5 hx hb hK hP hD hS (f0 := w2601_a_6_5) rfl (i := x2601_4) (x := d) (vp_in_iff.mpr ⟨by omega, by omega⟩) dX6_tear_87 (fun f2628 ef2628 H locs hP hD hS => ?_)
                    have hf2628 : ∀ j, inb (bA 6 5 j) (f2628 j) := fun j => full_i _
                    have hP : va_P (dC, dI) classes (WX h g ca iv lv (u2 (u2 fa 6 6 f2621) 6 5 f2628) la) H := hP
                    have hD : va_D A (WX h g ca iv lv (u2 (u2 fa 6 6 f2621) 6 5 f2628) la) := hD
                    obtain ⟨v2629, ev2629⟩ : ∃ y : Int32, y = x2601_3 + 1 := ⟨_, rfl⟩
                    refine lv_iinc (v := v2629) (lv' := [(3, .int v2629), (4, .int x2601_4), (0, .ref (g 11 9)), (1, .int b), (2, .int d)]) hx hb dX6_tear_88 hl (k := 1) rfl (by rw [ev2629]; rfl) (by decide) rfl (fun ls hl => ?_)
                    obtain ⟨v2630, ev2630⟩ : ∃ y : Int32, y = x2601_4 + 1 := ⟨_, rfl⟩
                    have tv2630 := z_add ev2630 rfl (by decide : (1 : Int32).toInt = 1) (by omega) (by omega)
                    refine lv_iinc (v := v2630) (lv' := [(4, .int v2630), (3, .int v2629), (0, .ref (g 11 9)), (1, .int b), (2, .int d)]) hx hb dX6_tear_91 hl (k := 1) rfl (by rw [ev2630]; rfl) (by decide) rfl (fun ls hl => ?_)
                    refine lv_goto (tgt := 5) hx hb dX6_tear_94 (by decide) ?_
                    exact ih2602 v2630 v2629 f2621 f2628 ⟨by omega, by omega⟩ hf2621 hf2628 (show ∀ q : Nat, (q : Int) < (v2630 : Int32).toInt → ((f2621 q).toInt = 1 ↔ (q = ((b).toInt).toNat ∨ (0 ≤ ((fa 6 3) q).toInt ∧ (f2621 (((fa 6 3) q).toInt).toNat).toInt = 1))) from (by
                          have hk9 : ((((x2601_4 : Int32).toInt).toNat : Nat) : Int) = (x2601_4 : Int32).toInt := Int.toNat_of_nonneg (by omega)
                          have hO9 := hJP ((x2601_4 : Int32).toInt).toNat (by omega)
                          have hf9 : (f2621 ((x2601_4 : Int32).toInt).toNat).toInt = 0 := by rw [ef2621, show ((x2601_4 : Int32).toInt).toNat = (x2601_4 : Int32).toNatClampNeg from rfl, upd_eq] <;> decide
                          have hF9 : ∀ j : Nat, j ≠ ((x2601_4 : Int32).toInt).toNat → f2621 j = w2601_a_6_6 j := fun j hj => by rw [ef2621, upd_ne (show j ≠ (x2601_4 : Int32).toNatClampNeg from hj)]
                          have hl9 := congrArg Int32.toInt (show v2622 = f2621 ((x2601_4 : Int32).toInt).toNat from ev2622)
                          have ho9 := congrArg Int32.toInt (show v2615 = fa 6 3 ((x2601_4 : Int32).toInt).toNat from ev2615)
                          have hv9 := congrArg Int32.toInt (show v2619 = w2601_a_6_6 ((v2615 : Int32).toInt).toNat from ev2619)
                          rw [show (v2615 : Int32).toInt = (fa 6 3 ((x2601_4 : Int32).toInt).toNat).toInt from by omega] at hv9
                          have hd9 : ((x2601_4 : Int32).toInt).toNat ≠ ((fa 6 3 ((x2601_4 : Int32).toInt).toNat).toInt).toNat ∨ (fa 6 3 ((x2601_4 : Int32).toInt).toNat).toInt < 0 := by omega
                          intro q hq
                          by_cases hj : q = ((x2601_4 : Int32).toInt).toNat
                          · rw [hj]
                            by_cases hz : 0 ≤ (fa 6 3 ((x2601_4 : Int32).toInt).toNat).toInt
                            · have hne : ((fa 6 3 ((x2601_4 : Int32).toInt).toNat).toInt).toNat ≠ ((x2601_4 : Int32).toInt).toNat := by omega
                              rw [hF9 _ hne]
                              constructor
                              · intro z; omega
                              · intro z; omega
                            · constructor
                              · intro z; omega
                              · intro z; omega
                          · have hq2 := hq2602_0 q (by omega)
                            have hO8 := hJP q (by omega)
                            rw [hF9 q hj]
                            by_cases hz : 0 ≤ (fa 6 3 q).toInt
                            · have hne : ((fa 6 3 q).toInt).toNat ≠ ((x2601_4 : Int32).toInt).toNat := by omega
                              rw [hF9 _ hne]; exact hq2
                            · constructor
                              · intro z
                                rcases hq2.mp z with z1 | z1
                                · exact Or.inl z1
                                · exact absurd z1.1 hz
                              · intro z
                                rcases z with z1 | z1
                                · exact hq2.mpr (Or.inl z1)
                                · exact absurd z1.1 hz)) (show ∀ q : Nat, (((q : Int) < (v2630 : Int32).toInt ∧ (f2621 q).toInt = 1 ∧ ((fa 6 5) q).toInt = -1) → f2628 q = d) ∧ (¬ ((q : Int) < (v2630 : Int32).toInt ∧ (f2621 q).toInt = 1 ∧ ((fa 6 5) q).toInt = -1) → f2628 q = (fa 6 5) q) from (by
                          have hk9 : ((((x2601_4 : Int32).toInt).toNat : Nat) : Int) = (x2601_4 : Int32).toInt := Int.toNat_of_nonneg (by omega)
                          have hO9 := hJP ((x2601_4 : Int32).toInt).toNat (by omega)
                          have hf9 : (f2621 ((x2601_4 : Int32).toInt).toNat).toInt = 0 := by rw [ef2621, show ((x2601_4 : Int32).toInt).toNat = (x2601_4 : Int32).toNatClampNeg from rfl, upd_eq] <;> decide
                          have hF9 : ∀ j : Nat, j ≠ ((x2601_4 : Int32).toInt).toNat → f2621 j = w2601_a_6_6 j := fun j hj => by rw [ef2621, upd_ne (show j ≠ (x2601_4 : Int32).toNatClampNeg from hj)]
                          have hl9 := congrArg Int32.toInt (show v2622 = f2621 ((x2601_4 : Int32).toInt).toNat from ev2622)
                          have ho9 := congrArg Int32.toInt (show v2615 = fa 6 3 ((x2601_4 : Int32).toInt).toNat from ev2615)
                          have hv9 := congrArg Int32.toInt (show v2619 = w2601_a_6_6 ((v2615 : Int32).toInt).toNat from ev2619)
                          rw [show (v2615 : Int32).toInt = (fa 6 3 ((x2601_4 : Int32).toInt).toNat).toInt from by omega] at hv9
                          have hu9 := xr2625_0
                          have hU9 := (hq2602_1 ((x2601_4 : Int32).toInt).toNat).2 (by omega)
                          rw [hU9] at hu9
                          have ha9 : f2628 ((x2601_4 : Int32).toInt).toNat = d := by rw [ef2628, show ((x2601_4 : Int32).toInt).toNat = (x2601_4 : Int32).toNatClampNeg from rfl, upd_eq]
                          have hA9 : ∀ j : Nat, j ≠ ((x2601_4 : Int32).toInt).toNat → f2628 j = w2601_a_6_5 j := fun j hj => by rw [ef2628, upd_ne (show j ≠ (x2601_4 : Int32).toNatClampNeg from hj)]
                          intro q
                          by_cases hj : q = ((x2601_4 : Int32).toInt).toNat
                          · rw [hj]
                            exact ⟨fun _ => ha9, fun z => absurd ⟨by omega, by omega, by omega⟩ z⟩
                          · rw [hA9 q hj, hF9 q hj]
                            have hq2 := hq2602_1 q
                            exact ⟨fun z => hq2.1 ⟨by omega, z.2⟩, fun z => hq2.2 (fun y => z ⟨by omega, y.2⟩)⟩)) (show (v2629 : Int32).toInt = (smC (fun q : Nat => (f2621 q).toInt = 1 ∧ ((fa 6 5) q).toInt = -1) ((v2630 : Int32).toInt).toNat).toInt from (by
                          have hq8 := hq2602_2
                          have hk9 : ((((x2601_4 : Int32).toInt).toNat : Nat) : Int) = (x2601_4 : Int32).toInt := Int.toNat_of_nonneg (by omega)
                          have hO9 := hJP ((x2601_4 : Int32).toInt).toNat (by omega)
                          have hf9 : (f2621 ((x2601_4 : Int32).toInt).toNat).toInt = 0 := by rw [ef2621, show ((x2601_4 : Int32).toInt).toNat = (x2601_4 : Int32).toNatClampNeg from rfl, upd_eq] <;> decide
                          have hF9 : ∀ j : Nat, j ≠ ((x2601_4 : Int32).toInt).toNat → f2621 j = w2601_a_6_6 j := fun j hj => by rw [ef2621, upd_ne (show j ≠ (x2601_4 : Int32).toNatClampNeg from hj)]
                          have hl9 := congrArg Int32.toInt (show v2622 = f2621 ((x2601_4 : Int32).toInt).toNat from ev2622)
                          have ho9 := congrArg Int32.toInt (show v2615 = fa 6 3 ((x2601_4 : Int32).toInt).toNat from ev2615)
                          have hv9 := congrArg Int32.toInt (show v2619 = w2601_a_6_6 ((v2615 : Int32).toInt).toNat from ev2619)
                          rw [show (v2615 : Int32).toInt = (fa 6 3 ((x2601_4 : Int32).toInt).toNat).toInt from by omega] at hv9
                          have hu9 := xr2625_0
                          have hU9 := (hq2602_1 ((x2601_4 : Int32).toInt).toNat).2 (by omega)
                          rw [hU9] at hu9
                          have hs9 : ((v2630 : Int32).toInt).toNat = ((x2601_4 : Int32).toInt).toNat + 1 := by omega
                          have hc9 : smC (fun q : Nat => (f2621 q).toInt = 1 ∧ (fa 6 5 q).toInt = -1) ((x2601_4 : Int32).toInt).toNat = smC (fun q : Nat => (w2601_a_6_6 q).toInt = 1 ∧ (fa 6 5 q).toInt = -1) ((x2601_4 : Int32).toInt).toNat := smC_cg _ (fun j hj => by rw [hF9 j (by omega)])
                          rw [← hc9] at hq8
                          have h1 : x2601_3 = smC _ _ := Int32.toInt_inj.mp hq8
                          rw [smC_y hs9 ⟨by omega, by omega⟩, ← h1, ev2629])) (show (v2630 : Int32).toInt ≤ ((iv 6 7) : Int32).toInt from by omega) (by omega) _ _ ls hP hD hS (lv_sub hl [0, 1, 2, 3, 4] rfl)
              · have fc2620 := z_ne (rfl : (v2619).toInt = _) (by decide : (0 : Int32).toInt = 0) c2620
                refine lv_iconst (v := 1) hx hb dX6_tear_55 (by decide) ?_
                refine lv_goto (tgt := 60) hx hb dX6_tear_56 (by decide) ?_
                refine tX_6_6 hx hb hK hP hD hS (f0 := w2601_a_6_6) rfl (i := x2601_4) (x := 1) (vp_in_iff.mpr ⟨by omega, by omega⟩) dX6_tear_60 (fun f2631 ef2631 H locs hP hD hS => ?_)
                have hf2631 : ∀ j, inb (bA 6 6 j) (f2631 j) := by rw [ef2631]; exact upd_b (b := bA 6 6) hw2601_a_6_6 (show inb (0, 1) (vp_nar .boolean 1) from ⟨by decide, by decide⟩)
                have hP : va_P (dC, dI) classes (WX h g ca iv lv (u2 (u2 fa 6 6 f2631) 6 5 w2601_a_6_5) la) H := hP
                have hD : va_D A (WX h g ca iv lv (u2 (u2 fa 6 6 f2631) 6 5 w2601_a_6_5) la) := hD
                refine lv_aload_n hx hb dX6_tear_61 rfl (lv_at hl 2 rfl) ?_
                refine gX_6_6 hx hb ht hown hK hP m_395 dX6_tear_62 ?_
                refine lv_iload hx hb dX6_tear_65 (lv_at hl 0 rfl) ?_
                refine lX_6_6 hx hb hK hP (f := f2631) rfl (vp_in_iff.mpr ⟨by omega, by omega⟩) dX6_tear_67 ?_
                refine lv_topi (fun v2632 ev2632 => ?_)
                have tv2632 : 0 ≤ v2632.toInt ∧ v2632.toInt ≤ 1 := by rw [ev2632]; exact hf2631 _
                refine lv_if_eq (tgt := 91) hx hb dX6_tear_68 (by decide) (fun c2633 => ?_) (fun c2633 => ?_)
                · have fc2633 := z_eq (rfl : (v2632).toInt = _) (by decide : (0 : Int32).toInt = 0) c2633
                  obtain ⟨v2634, ev2634⟩ : ∃ y : Int32, y = x2601_4 + 1 := ⟨_, rfl⟩
                  have tv2634 := z_add ev2634 rfl (by decide : (1 : Int32).toInt = 1) (by omega) (by omega)
                  refine lv_iinc (v := v2634) (lv' := [(4, .int v2634), (3, .int x2601_3), (0, .ref (g 11 9)), (1, .int b), (2, .int d)]) hx hb dX6_tear_91 hl (k := 0) rfl (by rw [ev2634]; rfl) (by decide) rfl (fun ls hl => ?_)
                  refine lv_goto (tgt := 5) hx hb dX6_tear_94 (by decide) ?_
                  exact ih2602 v2634 x2601_3 f2631 w2601_a_6_5 ⟨by omega, by omega⟩ hf2631 hw2601_a_6_5 (show ∀ q : Nat, (q : Int) < (v2634 : Int32).toInt → ((f2631 q).toInt = 1 ↔ (q = ((b).toInt).toNat ∨ (0 ≤ ((fa 6 3) q).toInt ∧ (f2631 (((fa 6 3) q).toInt).toNat).toInt = 1))) from (by
                        have hk9 : ((((x2601_4 : Int32).toInt).toNat : Nat) : Int) = (x2601_4 : Int32).toInt := Int.toNat_of_nonneg (by omega)
                        have hO9 := hJP ((x2601_4 : Int32).toInt).toNat (by omega)
                        have hf9 : (f2631 ((x2601_4 : Int32).toInt).toNat).toInt = 1 := by rw [ef2631, show ((x2601_4 : Int32).toInt).toNat = (x2601_4 : Int32).toNatClampNeg from rfl, upd_eq] <;> decide
                        have hF9 : ∀ j : Nat, j ≠ ((x2601_4 : Int32).toInt).toNat → f2631 j = w2601_a_6_6 j := fun j hj => by rw [ef2631, upd_ne (show j ≠ (x2601_4 : Int32).toNatClampNeg from hj)]
                        have hl9 := congrArg Int32.toInt (show v2632 = f2631 ((x2601_4 : Int32).toInt).toNat from ev2632)
                        have ho9 := congrArg Int32.toInt (show v2615 = fa 6 3 ((x2601_4 : Int32).toInt).toNat from ev2615)
                        have hv9 := congrArg Int32.toInt (show v2619 = w2601_a_6_6 ((v2615 : Int32).toInt).toNat from ev2619)
                        rw [show (v2615 : Int32).toInt = (fa 6 3 ((x2601_4 : Int32).toInt).toNat).toInt from by omega] at hv9
                        have hd9 : ((x2601_4 : Int32).toInt).toNat ≠ ((fa 6 3 ((x2601_4 : Int32).toInt).toNat).toInt).toNat ∨ (fa 6 3 ((x2601_4 : Int32).toInt).toNat).toInt < 0 := by omega
                        intro q hq
                        by_cases hj : q = ((x2601_4 : Int32).toInt).toNat
                        · rw [hj]
                          by_cases hz : 0 ≤ (fa 6 3 ((x2601_4 : Int32).toInt).toNat).toInt
                          · have hne : ((fa 6 3 ((x2601_4 : Int32).toInt).toNat).toInt).toNat ≠ ((x2601_4 : Int32).toInt).toNat := by omega
                            rw [hF9 _ hne]
                            constructor
                            · intro z; omega
                            · intro z; omega
                          · constructor
                            · intro z; omega
                            · intro z; omega
                        · have hq2 := hq2602_0 q (by omega)
                          have hO8 := hJP q (by omega)
                          rw [hF9 q hj]
                          by_cases hz : 0 ≤ (fa 6 3 q).toInt
                          · have hne : ((fa 6 3 q).toInt).toNat ≠ ((x2601_4 : Int32).toInt).toNat := by omega
                            rw [hF9 _ hne]; exact hq2
                          · constructor
                            · intro z
                              rcases hq2.mp z with z1 | z1
                              · exact Or.inl z1
                              · exact absurd z1.1 hz
                            · intro z
                              rcases z with z1 | z1
                              · exact hq2.mpr (Or.inl z1)
                              · exact absurd z1.1 hz)) (show ∀ q : Nat, (((q : Int) < (v2634 : Int32).toInt ∧ (f2631 q).toInt = 1 ∧ ((fa 6 5) q).toInt = -1) → w2601_a_6_5 q = d) ∧ (¬ ((q : Int) < (v2634 : Int32).toInt ∧ (f2631 q).toInt = 1 ∧ ((fa 6 5) q).toInt = -1) → w2601_a_6_5 q = (fa 6 5) q) from (by
                        have hk9 : ((((x2601_4 : Int32).toInt).toNat : Nat) : Int) = (x2601_4 : Int32).toInt := Int.toNat_of_nonneg (by omega)
                        have hO9 := hJP ((x2601_4 : Int32).toInt).toNat (by omega)
                        have hf9 : (f2631 ((x2601_4 : Int32).toInt).toNat).toInt = 1 := by rw [ef2631, show ((x2601_4 : Int32).toInt).toNat = (x2601_4 : Int32).toNatClampNeg from rfl, upd_eq] <;> decide
                        have hF9 : ∀ j : Nat, j ≠ ((x2601_4 : Int32).toInt).toNat → f2631 j = w2601_a_6_6 j := fun j hj => by rw [ef2631, upd_ne (show j ≠ (x2601_4 : Int32).toNatClampNeg from hj)]
                        have hl9 := congrArg Int32.toInt (show v2632 = f2631 ((x2601_4 : Int32).toInt).toNat from ev2632)
                        have ho9 := congrArg Int32.toInt (show v2615 = fa 6 3 ((x2601_4 : Int32).toInt).toNat from ev2615)
                        have hv9 := congrArg Int32.toInt (show v2619 = w2601_a_6_6 ((v2615 : Int32).toInt).toNat from ev2619)
                        rw [show (v2615 : Int32).toInt = (fa 6 3 ((x2601_4 : Int32).toInt).toNat).toInt from by omega] at hv9
                        intro q
                        by_cases hj : q = ((x2601_4 : Int32).toInt).toNat
                        · rw [hj]
                          exact ⟨fun z => by exfalso; omega, fun _ => (hq2602_1 ((x2601_4 : Int32).toInt).toNat).2 (by omega)⟩
                        · rw [hF9 q hj]
                          have hq2 := hq2602_1 q
                          exact ⟨fun z => hq2.1 ⟨by omega, z.2⟩, fun z => hq2.2 (fun y => z ⟨by omega, y.2⟩)⟩)) (show (x2601_3 : Int32).toInt = (smC (fun q : Nat => (f2631 q).toInt = 1 ∧ ((fa 6 5) q).toInt = -1) ((v2634 : Int32).toInt).toNat).toInt from (by
                        have hq8 := hq2602_2
                        have hk9 : ((((x2601_4 : Int32).toInt).toNat : Nat) : Int) = (x2601_4 : Int32).toInt := Int.toNat_of_nonneg (by omega)
                        have hO9 := hJP ((x2601_4 : Int32).toInt).toNat (by omega)
                        have hf9 : (f2631 ((x2601_4 : Int32).toInt).toNat).toInt = 1 := by rw [ef2631, show ((x2601_4 : Int32).toInt).toNat = (x2601_4 : Int32).toNatClampNeg from rfl, upd_eq] <;> decide
                        have hF9 : ∀ j : Nat, j ≠ ((x2601_4 : Int32).toInt).toNat → f2631 j = w2601_a_6_6 j := fun j hj => by rw [ef2631, upd_ne (show j ≠ (x2601_4 : Int32).toNatClampNeg from hj)]
                        have hl9 := congrArg Int32.toInt (show v2632 = f2631 ((x2601_4 : Int32).toInt).toNat from ev2632)
                        have ho9 := congrArg Int32.toInt (show v2615 = fa 6 3 ((x2601_4 : Int32).toInt).toNat from ev2615)
                        have hv9 := congrArg Int32.toInt (show v2619 = w2601_a_6_6 ((v2615 : Int32).toInt).toNat from ev2619)
                        rw [show (v2615 : Int32).toInt = (fa 6 3 ((x2601_4 : Int32).toInt).toNat).toInt from by omega] at hv9
                        have hs9 : ((v2634 : Int32).toInt).toNat = ((x2601_4 : Int32).toInt).toNat + 1 := by omega
                        have hc9 : smC (fun q : Nat => (f2631 q).toInt = 1 ∧ (fa 6 5 q).toInt = -1) ((x2601_4 : Int32).toInt).toNat = smC (fun q : Nat => (w2601_a_6_6 q).toInt = 1 ∧ (fa 6 5 q).toInt = -1) ((x2601_4 : Int32).toInt).toNat := smC_cg _ (fun j hj => by rw [hF9 j (by omega)])
                        rw [← hc9] at hq8
                        rw [smC_n hs9 (fun z => by have := z.1; have := z.2; omega)]; exact hq8)) (show (v2634 : Int32).toInt ≤ ((iv 6 7) : Int32).toInt from by omega) (by omega) _ _ ls hP hD hS (lv_sub hl [0, 1, 2, 3, 4] rfl)
                · have fc2633 := z_ne (rfl : (v2632).toInt = _) (by decide : (0 : Int32).toInt = 0) c2633
                  refine lv_aload_n hx hb dX6_tear_71 rfl (lv_at hl 2 rfl) ?_
                  refine lv_iload hx hb dX6_tear_72 (lv_at hl 0 rfl) ?_
                  refine vp_callSi (W.runV (As := [.int x2601_4]) (rest := []) ⟨hx, hb, hml, hown, ht⟩ (c_X6_isUndone_w l dC dI h g ca iv lv (u2 (u2 fa 6 6 f2631) 6 5 w2601_a_6_5) la (IX_a (c := 6) (k := 5) (IX_a (c := 6) (k := 6) hI hf2631) hw2601_a_6_5) x2601_4 ⟨by omega, by omega⟩) (kV 1 ht m_1079 m_1080 m_1081 m_88 m_1082 rfl rfl hd_X6_isUndone_v ⟨Nat.le_of_ble_eq_true rfl, Nat.le_of_ble_eq_true rfl⟩) (vR hP hK (rX_6 hK hP)) rfl rfl hl.1 rfl (lv_room (Nat.le_of_ble_eq_true rfl)) dX6_tear_74 ⟨Nat.le_of_ble_eq_true rfl, Nat.le_of_ble_eq_true rfl⟩) (fun r2635 hr2635 => ?_)
                  obtain ⟨hr2635, xr2635_0⟩ := hr2635
                  have xr2635_0 : (((r2635 : Int32).toInt = 1 ∧ (w2601_a_6_5 ((x2601_4 : Int32).toInt).toNat).toInt ≠ -1) ∨ ((r2635 : Int32).toInt = 0 ∧ (w2601_a_6_5 ((x2601_4 : Int32).toInt).toNat).toInt = -1)) := xr2635_0
                  refine lv_if_ne (tgt := 91) hx hb dX6_tear_77 (by decide) (fun c2636 => ?_) (fun c2636 => ?_)
                  · have fc2636 := z_ne (rfl : (r2635).toInt = _) (by decide : (0 : Int32).toInt = 0) c2636
                    obtain ⟨v2637, ev2637⟩ : ∃ y : Int32, y = x2601_4 + 1 := ⟨_, rfl⟩
                    have tv2637 := z_add ev2637 rfl (by decide : (1 : Int32).toInt = 1) (by omega) (by omega)
                    refine lv_iinc (v := v2637) (lv' := [(4, .int v2637), (3, .int x2601_3), (0, .ref (g 11 9)), (1, .int b), (2, .int d)]) hx hb dX6_tear_91 hl (k := 0) rfl (by rw [ev2637]; rfl) (by decide) rfl (fun ls hl => ?_)
                    refine lv_goto (tgt := 5) hx hb dX6_tear_94 (by decide) ?_
                    exact ih2602 v2637 x2601_3 f2631 w2601_a_6_5 ⟨by omega, by omega⟩ hf2631 hw2601_a_6_5 (show ∀ q : Nat, (q : Int) < (v2637 : Int32).toInt → ((f2631 q).toInt = 1 ↔ (q = ((b).toInt).toNat ∨ (0 ≤ ((fa 6 3) q).toInt ∧ (f2631 (((fa 6 3) q).toInt).toNat).toInt = 1))) from (by
                          have hk9 : ((((x2601_4 : Int32).toInt).toNat : Nat) : Int) = (x2601_4 : Int32).toInt := Int.toNat_of_nonneg (by omega)
                          have hO9 := hJP ((x2601_4 : Int32).toInt).toNat (by omega)
                          have hf9 : (f2631 ((x2601_4 : Int32).toInt).toNat).toInt = 1 := by rw [ef2631, show ((x2601_4 : Int32).toInt).toNat = (x2601_4 : Int32).toNatClampNeg from rfl, upd_eq] <;> decide
                          have hF9 : ∀ j : Nat, j ≠ ((x2601_4 : Int32).toInt).toNat → f2631 j = w2601_a_6_6 j := fun j hj => by rw [ef2631, upd_ne (show j ≠ (x2601_4 : Int32).toNatClampNeg from hj)]
                          have hl9 := congrArg Int32.toInt (show v2632 = f2631 ((x2601_4 : Int32).toInt).toNat from ev2632)
                          have ho9 := congrArg Int32.toInt (show v2615 = fa 6 3 ((x2601_4 : Int32).toInt).toNat from ev2615)
                          have hv9 := congrArg Int32.toInt (show v2619 = w2601_a_6_6 ((v2615 : Int32).toInt).toNat from ev2619)
                          rw [show (v2615 : Int32).toInt = (fa 6 3 ((x2601_4 : Int32).toInt).toNat).toInt from by omega] at hv9
                          have hd9 : ((x2601_4 : Int32).toInt).toNat ≠ ((fa 6 3 ((x2601_4 : Int32).toInt).toNat).toInt).toNat ∨ (fa 6 3 ((x2601_4 : Int32).toInt).toNat).toInt < 0 := by omega
                          intro q hq
                          by_cases hj : q = ((x2601_4 : Int32).toInt).toNat
                          · rw [hj]
                            by_cases hz : 0 ≤ (fa 6 3 ((x2601_4 : Int32).toInt).toNat).toInt
                            · have hne : ((fa 6 3 ((x2601_4 : Int32).toInt).toNat).toInt).toNat ≠ ((x2601_4 : Int32).toInt).toNat := by omega
                              rw [hF9 _ hne]
                              constructor
                              · intro z; omega
                              · intro z; omega
                            · constructor
                              · intro z; omega
                              · intro z; omega
                          · have hq2 := hq2602_0 q (by omega)
                            have hO8 := hJP q (by omega)
                            rw [hF9 q hj]
                            by_cases hz : 0 ≤ (fa 6 3 q).toInt
                            · have hne : ((fa 6 3 q).toInt).toNat ≠ ((x2601_4 : Int32).toInt).toNat := by omega
                              rw [hF9 _ hne]; exact hq2
                            · constructor
                              · intro z
                                rcases hq2.mp z with z1 | z1
                                · exact Or.inl z1
                                · exact absurd z1.1 hz
                              · intro z
                                rcases z with z1 | z1
                                · exact hq2.mpr (Or.inl z1)
                                · exact absurd z1.1 hz)) (show ∀ q : Nat, (((q : Int) < (v2637 : Int32).toInt ∧ (f2631 q).toInt = 1 ∧ ((fa 6 5) q).toInt = -1) → w2601_a_6_5 q = d) ∧ (¬ ((q : Int) < (v2637 : Int32).toInt ∧ (f2631 q).toInt = 1 ∧ ((fa 6 5) q).toInt = -1) → w2601_a_6_5 q = (fa 6 5) q) from (by
                          have hk9 : ((((x2601_4 : Int32).toInt).toNat : Nat) : Int) = (x2601_4 : Int32).toInt := Int.toNat_of_nonneg (by omega)
                          have hO9 := hJP ((x2601_4 : Int32).toInt).toNat (by omega)
                          have hf9 : (f2631 ((x2601_4 : Int32).toInt).toNat).toInt = 1 := by rw [ef2631, show ((x2601_4 : Int32).toInt).toNat = (x2601_4 : Int32).toNatClampNeg from rfl, upd_eq] <;> decide
                          have hF9 : ∀ j : Nat, j ≠ ((x2601_4 : Int32).toInt).toNat → f2631 j = w2601_a_6_6 j := fun j hj => by rw [ef2631, upd_ne (show j ≠ (x2601_4 : Int32).toNatClampNeg from hj)]
                          have hl9 := congrArg Int32.toInt (show v2632 = f2631 ((x2601_4 : Int32).toInt).toNat from ev2632)
                          have ho9 := congrArg Int32.toInt (show v2615 = fa 6 3 ((x2601_4 : Int32).toInt).toNat from ev2615)
                          have hv9 := congrArg Int32.toInt (show v2619 = w2601_a_6_6 ((v2615 : Int32).toInt).toNat from ev2619)
                          rw [show (v2615 : Int32).toInt = (fa 6 3 ((x2601_4 : Int32).toInt).toNat).toInt from by omega] at hv9
                          have hu9 := xr2635_0
                          have hU9 := (hq2602_1 ((x2601_4 : Int32).toInt).toNat).2 (by omega)
                          rw [hU9] at hu9
                          intro q
                          by_cases hj : q = ((x2601_4 : Int32).toInt).toNat
                          · rw [hj]
                            exact ⟨fun z => by exfalso; omega, fun _ => (hq2602_1 ((x2601_4 : Int32).toInt).toNat).2 (by omega)⟩
                          · rw [hF9 q hj]
                            have hq2 := hq2602_1 q
                            exact ⟨fun z => hq2.1 ⟨by omega, z.2⟩, fun z => hq2.2 (fun y => z ⟨by omega, y.2⟩)⟩)) (show (x2601_3 : Int32).toInt = (smC (fun q : Nat => (f2631 q).toInt = 1 ∧ ((fa 6 5) q).toInt = -1) ((v2637 : Int32).toInt).toNat).toInt from (by
                          have hq8 := hq2602_2
                          have hk9 : ((((x2601_4 : Int32).toInt).toNat : Nat) : Int) = (x2601_4 : Int32).toInt := Int.toNat_of_nonneg (by omega)
                          have hO9 := hJP ((x2601_4 : Int32).toInt).toNat (by omega)
                          have hf9 : (f2631 ((x2601_4 : Int32).toInt).toNat).toInt = 1 := by rw [ef2631, show ((x2601_4 : Int32).toInt).toNat = (x2601_4 : Int32).toNatClampNeg from rfl, upd_eq] <;> decide
                          have hF9 : ∀ j : Nat, j ≠ ((x2601_4 : Int32).toInt).toNat → f2631 j = w2601_a_6_6 j := fun j hj => by rw [ef2631, upd_ne (show j ≠ (x2601_4 : Int32).toNatClampNeg from hj)]
                          have hl9 := congrArg Int32.toInt (show v2632 = f2631 ((x2601_4 : Int32).toInt).toNat from ev2632)
                          have ho9 := congrArg Int32.toInt (show v2615 = fa 6 3 ((x2601_4 : Int32).toInt).toNat from ev2615)
                          have hv9 := congrArg Int32.toInt (show v2619 = w2601_a_6_6 ((v2615 : Int32).toInt).toNat from ev2619)
                          rw [show (v2615 : Int32).toInt = (fa 6 3 ((x2601_4 : Int32).toInt).toNat).toInt from by omega] at hv9
                          have hu9 := xr2635_0
                          have hU9 := (hq2602_1 ((x2601_4 : Int32).toInt).toNat).2 (by omega)
                          rw [hU9] at hu9
                          have hs9 : ((v2637 : Int32).toInt).toNat = ((x2601_4 : Int32).toInt).toNat + 1 := by omega
                          have hc9 : smC (fun q : Nat => (f2631 q).toInt = 1 ∧ (fa 6 5 q).toInt = -1) ((x2601_4 : Int32).toInt).toNat = smC (fun q : Nat => (w2601_a_6_6 q).toInt = 1 ∧ (fa 6 5 q).toInt = -1) ((x2601_4 : Int32).toInt).toNat := smC_cg _ (fun j hj => by rw [hF9 j (by omega)])
                          rw [← hc9] at hq8
                          rw [smC_n hs9 (fun z => by have := z.1; have := z.2; omega)]; exact hq8)) (show (v2637 : Int32).toInt ≤ ((iv 6 7) : Int32).toInt from by omega) (by omega) _ _ ls hP hD hS (lv_sub hl [0, 1, 2, 3, 4] rfl)
                  · have fc2636 := z_eq (rfl : (r2635).toInt = _) (by decide : (0 : Int32).toInt = 0) c2636
                    refine lv_aload_n hx hb dX6_tear_80 rfl (lv_at hl 2 rfl) ?_
                    refine gX_6_5 hx hb ht hown hK hP m_393 dX6_tear_81 ?_
                    refine lv_iload hx hb dX6_tear_84 (lv_at hl 0 rfl) ?_
                    refine lv_iload_n hx hb dX6_tear_86 rfl (lv_at hl 4 rfl) ?_
                    refine tX_6_5 hx hb hK hP hD hS (f0 := w2601_a_6_5) rfl (i := x2601_4) (x := d) (vp_in_iff.mpr ⟨by omega, by omega⟩) dX6_tear_87 (fun f2638 ef2638 H locs hP hD hS => ?_)
                    have hf2638 : ∀ j, inb (bA 6 5 j) (f2638 j) := fun j => full_i _
                    have hP : va_P (dC, dI) classes (WX h g ca iv lv (u2 (u2 fa 6 6 f2631) 6 5 f2638) la) H := hP
                    have hD : va_D A (WX h g ca iv lv (u2 (u2 fa 6 6 f2631) 6 5 f2638) la) := hD
                    obtain ⟨v2639, ev2639⟩ : ∃ y : Int32, y = x2601_3 + 1 := ⟨_, rfl⟩
                    refine lv_iinc (v := v2639) (lv' := [(3, .int v2639), (4, .int x2601_4), (0, .ref (g 11 9)), (1, .int b), (2, .int d)]) hx hb dX6_tear_88 hl (k := 1) rfl (by rw [ev2639]; rfl) (by decide) rfl (fun ls hl => ?_)
                    obtain ⟨v2640, ev2640⟩ : ∃ y : Int32, y = x2601_4 + 1 := ⟨_, rfl⟩
                    have tv2640 := z_add ev2640 rfl (by decide : (1 : Int32).toInt = 1) (by omega) (by omega)
                    refine lv_iinc (v := v2640) (lv' := [(4, .int v2640), (3, .int v2639), (0, .ref (g 11 9)), (1, .int b), (2, .int d)]) hx hb dX6_tear_91 hl (k := 1) rfl (by rw [ev2640]; rfl) (by decide) rfl (fun ls hl => ?_)
                    refine lv_goto (tgt := 5) hx hb dX6_tear_94 (by decide) ?_
                    exact ih2602 v2640 v2639 f2631 f2638 ⟨by omega, by omega⟩ hf2631 hf2638 (show ∀ q : Nat, (q : Int) < (v2640 : Int32).toInt → ((f2631 q).toInt = 1 ↔ (q = ((b).toInt).toNat ∨ (0 ≤ ((fa 6 3) q).toInt ∧ (f2631 (((fa 6 3) q).toInt).toNat).toInt = 1))) from (by
                          have hk9 : ((((x2601_4 : Int32).toInt).toNat : Nat) : Int) = (x2601_4 : Int32).toInt := Int.toNat_of_nonneg (by omega)
                          have hO9 := hJP ((x2601_4 : Int32).toInt).toNat (by omega)
                          have hf9 : (f2631 ((x2601_4 : Int32).toInt).toNat).toInt = 1 := by rw [ef2631, show ((x2601_4 : Int32).toInt).toNat = (x2601_4 : Int32).toNatClampNeg from rfl, upd_eq] <;> decide
                          have hF9 : ∀ j : Nat, j ≠ ((x2601_4 : Int32).toInt).toNat → f2631 j = w2601_a_6_6 j := fun j hj => by rw [ef2631, upd_ne (show j ≠ (x2601_4 : Int32).toNatClampNeg from hj)]
                          have hl9 := congrArg Int32.toInt (show v2632 = f2631 ((x2601_4 : Int32).toInt).toNat from ev2632)
                          have ho9 := congrArg Int32.toInt (show v2615 = fa 6 3 ((x2601_4 : Int32).toInt).toNat from ev2615)
                          have hv9 := congrArg Int32.toInt (show v2619 = w2601_a_6_6 ((v2615 : Int32).toInt).toNat from ev2619)
                          rw [show (v2615 : Int32).toInt = (fa 6 3 ((x2601_4 : Int32).toInt).toNat).toInt from by omega] at hv9
                          have hd9 : ((x2601_4 : Int32).toInt).toNat ≠ ((fa 6 3 ((x2601_4 : Int32).toInt).toNat).toInt).toNat ∨ (fa 6 3 ((x2601_4 : Int32).toInt).toNat).toInt < 0 := by omega
                          intro q hq
                          by_cases hj : q = ((x2601_4 : Int32).toInt).toNat
                          · rw [hj]
                            by_cases hz : 0 ≤ (fa 6 3 ((x2601_4 : Int32).toInt).toNat).toInt
                            · have hne : ((fa 6 3 ((x2601_4 : Int32).toInt).toNat).toInt).toNat ≠ ((x2601_4 : Int32).toInt).toNat := by omega
                              rw [hF9 _ hne]
                              constructor
                              · intro z; omega
                              · intro z; omega
                            · constructor
                              · intro z; omega
                              · intro z; omega
                          · have hq2 := hq2602_0 q (by omega)
                            have hO8 := hJP q (by omega)
                            rw [hF9 q hj]
                            by_cases hz : 0 ≤ (fa 6 3 q).toInt
                            · have hne : ((fa 6 3 q).toInt).toNat ≠ ((x2601_4 : Int32).toInt).toNat := by omega
                              rw [hF9 _ hne]; exact hq2
                            · constructor
                              · intro z
                                rcases hq2.mp z with z1 | z1
                                · exact Or.inl z1
                                · exact absurd z1.1 hz
                              · intro z
                                rcases z with z1 | z1
                                · exact hq2.mpr (Or.inl z1)
                                · exact absurd z1.1 hz)) (show ∀ q : Nat, (((q : Int) < (v2640 : Int32).toInt ∧ (f2631 q).toInt = 1 ∧ ((fa 6 5) q).toInt = -1) → f2638 q = d) ∧ (¬ ((q : Int) < (v2640 : Int32).toInt ∧ (f2631 q).toInt = 1 ∧ ((fa 6 5) q).toInt = -1) → f2638 q = (fa 6 5) q) from (by
                          have hk9 : ((((x2601_4 : Int32).toInt).toNat : Nat) : Int) = (x2601_4 : Int32).toInt := Int.toNat_of_nonneg (by omega)
                          have hO9 := hJP ((x2601_4 : Int32).toInt).toNat (by omega)
                          have hf9 : (f2631 ((x2601_4 : Int32).toInt).toNat).toInt = 1 := by rw [ef2631, show ((x2601_4 : Int32).toInt).toNat = (x2601_4 : Int32).toNatClampNeg from rfl, upd_eq] <;> decide
                          have hF9 : ∀ j : Nat, j ≠ ((x2601_4 : Int32).toInt).toNat → f2631 j = w2601_a_6_6 j := fun j hj => by rw [ef2631, upd_ne (show j ≠ (x2601_4 : Int32).toNatClampNeg from hj)]
                          have hl9 := congrArg Int32.toInt (show v2632 = f2631 ((x2601_4 : Int32).toInt).toNat from ev2632)
                          have ho9 := congrArg Int32.toInt (show v2615 = fa 6 3 ((x2601_4 : Int32).toInt).toNat from ev2615)
                          have hv9 := congrArg Int32.toInt (show v2619 = w2601_a_6_6 ((v2615 : Int32).toInt).toNat from ev2619)
                          rw [show (v2615 : Int32).toInt = (fa 6 3 ((x2601_4 : Int32).toInt).toNat).toInt from by omega] at hv9
                          have hu9 := xr2635_0
                          have hU9 := (hq2602_1 ((x2601_4 : Int32).toInt).toNat).2 (by omega)
                          rw [hU9] at hu9
                          have ha9 : f2638 ((x2601_4 : Int32).toInt).toNat = d := by rw [ef2638, show ((x2601_4 : Int32).toInt).toNat = (x2601_4 : Int32).toNatClampNeg from rfl, upd_eq]
                          have hA9 : ∀ j : Nat, j ≠ ((x2601_4 : Int32).toInt).toNat → f2638 j = w2601_a_6_5 j := fun j hj => by rw [ef2638, upd_ne (show j ≠ (x2601_4 : Int32).toNatClampNeg from hj)]
                          intro q
                          by_cases hj : q = ((x2601_4 : Int32).toInt).toNat
                          · rw [hj]
                            exact ⟨fun _ => ha9, fun z => absurd ⟨by omega, by omega, by omega⟩ z⟩
                          · rw [hA9 q hj, hF9 q hj]
                            have hq2 := hq2602_1 q
                            exact ⟨fun z => hq2.1 ⟨by omega, z.2⟩, fun z => hq2.2 (fun y => z ⟨by omega, y.2⟩)⟩)) (show (v2639 : Int32).toInt = (smC (fun q : Nat => (f2631 q).toInt = 1 ∧ ((fa 6 5) q).toInt = -1) ((v2640 : Int32).toInt).toNat).toInt from (by
                          have hq8 := hq2602_2
                          have hk9 : ((((x2601_4 : Int32).toInt).toNat : Nat) : Int) = (x2601_4 : Int32).toInt := Int.toNat_of_nonneg (by omega)
                          have hO9 := hJP ((x2601_4 : Int32).toInt).toNat (by omega)
                          have hf9 : (f2631 ((x2601_4 : Int32).toInt).toNat).toInt = 1 := by rw [ef2631, show ((x2601_4 : Int32).toInt).toNat = (x2601_4 : Int32).toNatClampNeg from rfl, upd_eq] <;> decide
                          have hF9 : ∀ j : Nat, j ≠ ((x2601_4 : Int32).toInt).toNat → f2631 j = w2601_a_6_6 j := fun j hj => by rw [ef2631, upd_ne (show j ≠ (x2601_4 : Int32).toNatClampNeg from hj)]
                          have hl9 := congrArg Int32.toInt (show v2632 = f2631 ((x2601_4 : Int32).toInt).toNat from ev2632)
                          have ho9 := congrArg Int32.toInt (show v2615 = fa 6 3 ((x2601_4 : Int32).toInt).toNat from ev2615)
                          have hv9 := congrArg Int32.toInt (show v2619 = w2601_a_6_6 ((v2615 : Int32).toInt).toNat from ev2619)
                          rw [show (v2615 : Int32).toInt = (fa 6 3 ((x2601_4 : Int32).toInt).toNat).toInt from by omega] at hv9
                          have hu9 := xr2635_0
                          have hU9 := (hq2602_1 ((x2601_4 : Int32).toInt).toNat).2 (by omega)
                          rw [hU9] at hu9
                          have hs9 : ((v2640 : Int32).toInt).toNat = ((x2601_4 : Int32).toInt).toNat + 1 := by omega
                          have hc9 : smC (fun q : Nat => (f2631 q).toInt = 1 ∧ (fa 6 5 q).toInt = -1) ((x2601_4 : Int32).toInt).toNat = smC (fun q : Nat => (w2601_a_6_6 q).toInt = 1 ∧ (fa 6 5 q).toInt = -1) ((x2601_4 : Int32).toInt).toNat := smC_cg _ (fun j hj => by rw [hF9 j (by omega)])
                          rw [← hc9] at hq8
                          have h1 : x2601_3 = smC _ _ := Int32.toInt_inj.mp hq8
                          rw [smC_y hs9 ⟨by omega, by omega⟩, ← h1, ev2639])) (show (v2640 : Int32).toInt ≤ ((iv 6 7) : Int32).toInt from by omega) (by omega) _ _ ls hP hD hS (lv_sub hl [0, 1, 2, 3, 4] rfl)
          · skip
            have fr2616 : ¬ (0 ≤ (v2615 : Int32).toInt ∧ (v2615 : Int32).toInt < ((iv 6 7) : Int32).toInt) := fr2616
            refine lv_if_eq (tgt := 59) hx hb dX6_tear_37 (by decide) (fun c2641 => ?_) (fun c2641 => ?_)
            · skip
              refine lv_iconst (v := 0) hx hb dX6_tear_59 (by decide) ?_
              refine tX_6_6 hx hb hK hP hD hS (f0 := w2601_a_6_6) rfl (i := x2601_4) (x := 0) (vp_in_iff.mpr ⟨by omega, by omega⟩) dX6_tear_60 (fun f2642 ef2642 H locs hP hD hS => ?_)
              have hf2642 : ∀ j, inb (bA 6 6 j) (f2642 j) := by rw [ef2642]; exact upd_b (b := bA 6 6) hw2601_a_6_6 (show inb (0, 1) (vp_nar .boolean 0) from ⟨by decide, by decide⟩)
              have hP : va_P (dC, dI) classes (WX h g ca iv lv (u2 (u2 fa 6 6 f2642) 6 5 w2601_a_6_5) la) H := hP
              have hD : va_D A (WX h g ca iv lv (u2 (u2 fa 6 6 f2642) 6 5 w2601_a_6_5) la) := hD
              refine lv_aload_n hx hb dX6_tear_61 rfl (lv_at hl 2 rfl) ?_
              refine gX_6_6 hx hb ht hown hK hP m_395 dX6_tear_62 ?_
              refine lv_iload hx hb dX6_tear_65 (lv_at hl 0 rfl) ?_
              refine lX_6_6 hx hb hK hP (f := f2642) rfl (vp_in_iff.mpr ⟨by omega, by omega⟩) dX6_tear_67 ?_
              refine lv_topi (fun v2643 ev2643 => ?_)
              have tv2643 : 0 ≤ v2643.toInt ∧ v2643.toInt ≤ 1 := by rw [ev2643]; exact hf2642 _
              refine lv_if_eq (tgt := 91) hx hb dX6_tear_68 (by decide) (fun c2644 => ?_) (fun c2644 => ?_)
              · have fc2644 := z_eq (rfl : (v2643).toInt = _) (by decide : (0 : Int32).toInt = 0) c2644
                obtain ⟨v2645, ev2645⟩ : ∃ y : Int32, y = x2601_4 + 1 := ⟨_, rfl⟩
                have tv2645 := z_add ev2645 rfl (by decide : (1 : Int32).toInt = 1) (by omega) (by omega)
                refine lv_iinc (v := v2645) (lv' := [(4, .int v2645), (3, .int x2601_3), (0, .ref (g 11 9)), (1, .int b), (2, .int d)]) hx hb dX6_tear_91 hl (k := 0) rfl (by rw [ev2645]; rfl) (by decide) rfl (fun ls hl => ?_)
                refine lv_goto (tgt := 5) hx hb dX6_tear_94 (by decide) ?_
                exact ih2602 v2645 x2601_3 f2642 w2601_a_6_5 ⟨by omega, by omega⟩ hf2642 hw2601_a_6_5 (show ∀ q : Nat, (q : Int) < (v2645 : Int32).toInt → ((f2642 q).toInt = 1 ↔ (q = ((b).toInt).toNat ∨ (0 ≤ ((fa 6 3) q).toInt ∧ (f2642 (((fa 6 3) q).toInt).toNat).toInt = 1))) from (by
                      have hk9 : ((((x2601_4 : Int32).toInt).toNat : Nat) : Int) = (x2601_4 : Int32).toInt := Int.toNat_of_nonneg (by omega)
                      have hO9 := hJP ((x2601_4 : Int32).toInt).toNat (by omega)
                      have hf9 : (f2642 ((x2601_4 : Int32).toInt).toNat).toInt = 0 := by rw [ef2642, show ((x2601_4 : Int32).toInt).toNat = (x2601_4 : Int32).toNatClampNeg from rfl, upd_eq] <;> decide
                      have hF9 : ∀ j : Nat, j ≠ ((x2601_4 : Int32).toInt).toNat → f2642 j = w2601_a_6_6 j := fun j hj => by rw [ef2642, upd_ne (show j ≠ (x2601_4 : Int32).toNatClampNeg from hj)]
                      have hl9 := congrArg Int32.toInt (show v2643 = f2642 ((x2601_4 : Int32).toInt).toNat from ev2643)
                      have ho9 := congrArg Int32.toInt (show v2615 = fa 6 3 ((x2601_4 : Int32).toInt).toNat from ev2615)
                      have hd9 : ((x2601_4 : Int32).toInt).toNat ≠ ((fa 6 3 ((x2601_4 : Int32).toInt).toNat).toInt).toNat ∨ (fa 6 3 ((x2601_4 : Int32).toInt).toNat).toInt < 0 := by omega
                      intro q hq
                      by_cases hj : q = ((x2601_4 : Int32).toInt).toNat
                      · rw [hj]
                        by_cases hz : 0 ≤ (fa 6 3 ((x2601_4 : Int32).toInt).toNat).toInt
                        · have hne : ((fa 6 3 ((x2601_4 : Int32).toInt).toNat).toInt).toNat ≠ ((x2601_4 : Int32).toInt).toNat := by omega
                          rw [hF9 _ hne]
                          constructor
                          · intro z; omega
                          · intro z; omega
                        · constructor
                          · intro z; omega
                          · intro z; omega
                      · have hq2 := hq2602_0 q (by omega)
                        have hO8 := hJP q (by omega)
                        rw [hF9 q hj]
                        by_cases hz : 0 ≤ (fa 6 3 q).toInt
                        · have hne : ((fa 6 3 q).toInt).toNat ≠ ((x2601_4 : Int32).toInt).toNat := by omega
                          rw [hF9 _ hne]; exact hq2
                        · constructor
                          · intro z
                            rcases hq2.mp z with z1 | z1
                            · exact Or.inl z1
                            · exact absurd z1.1 hz
                          · intro z
                            rcases z with z1 | z1
                            · exact hq2.mpr (Or.inl z1)
                            · exact absurd z1.1 hz)) (show ∀ q : Nat, (((q : Int) < (v2645 : Int32).toInt ∧ (f2642 q).toInt = 1 ∧ ((fa 6 5) q).toInt = -1) → w2601_a_6_5 q = d) ∧ (¬ ((q : Int) < (v2645 : Int32).toInt ∧ (f2642 q).toInt = 1 ∧ ((fa 6 5) q).toInt = -1) → w2601_a_6_5 q = (fa 6 5) q) from (by
                      have hk9 : ((((x2601_4 : Int32).toInt).toNat : Nat) : Int) = (x2601_4 : Int32).toInt := Int.toNat_of_nonneg (by omega)
                      have hO9 := hJP ((x2601_4 : Int32).toInt).toNat (by omega)
                      have hf9 : (f2642 ((x2601_4 : Int32).toInt).toNat).toInt = 0 := by rw [ef2642, show ((x2601_4 : Int32).toInt).toNat = (x2601_4 : Int32).toNatClampNeg from rfl, upd_eq] <;> decide
                      have hF9 : ∀ j : Nat, j ≠ ((x2601_4 : Int32).toInt).toNat → f2642 j = w2601_a_6_6 j := fun j hj => by rw [ef2642, upd_ne (show j ≠ (x2601_4 : Int32).toNatClampNeg from hj)]
                      have hl9 := congrArg Int32.toInt (show v2643 = f2642 ((x2601_4 : Int32).toInt).toNat from ev2643)
                      have ho9 := congrArg Int32.toInt (show v2615 = fa 6 3 ((x2601_4 : Int32).toInt).toNat from ev2615)
                      intro q
                      by_cases hj : q = ((x2601_4 : Int32).toInt).toNat
                      · rw [hj]
                        exact ⟨fun z => by exfalso; omega, fun _ => (hq2602_1 ((x2601_4 : Int32).toInt).toNat).2 (by omega)⟩
                      · rw [hF9 q hj]
                        have hq2 := hq2602_1 q
                        exact ⟨fun z => hq2.1 ⟨by omega, z.2⟩, fun z => hq2.2 (fun y => z ⟨by omega, y.2⟩)⟩)) (show (x2601_3 : Int32).toInt = (smC (fun q : Nat => (f2642 q).toInt = 1 ∧ ((fa 6 5) q).toInt = -1) ((v2645 : Int32).toInt).toNat).toInt from (by
                      have hq8 := hq2602_2
                      have hk9 : ((((x2601_4 : Int32).toInt).toNat : Nat) : Int) = (x2601_4 : Int32).toInt := Int.toNat_of_nonneg (by omega)
                      have hO9 := hJP ((x2601_4 : Int32).toInt).toNat (by omega)
                      have hf9 : (f2642 ((x2601_4 : Int32).toInt).toNat).toInt = 0 := by rw [ef2642, show ((x2601_4 : Int32).toInt).toNat = (x2601_4 : Int32).toNatClampNeg from rfl, upd_eq] <;> decide
                      have hF9 : ∀ j : Nat, j ≠ ((x2601_4 : Int32).toInt).toNat → f2642 j = w2601_a_6_6 j := fun j hj => by rw [ef2642, upd_ne (show j ≠ (x2601_4 : Int32).toNatClampNeg from hj)]
                      have hl9 := congrArg Int32.toInt (show v2643 = f2642 ((x2601_4 : Int32).toInt).toNat from ev2643)
                      have ho9 := congrArg Int32.toInt (show v2615 = fa 6 3 ((x2601_4 : Int32).toInt).toNat from ev2615)
                      have hs9 : ((v2645 : Int32).toInt).toNat = ((x2601_4 : Int32).toInt).toNat + 1 := by omega
                      have hc9 : smC (fun q : Nat => (f2642 q).toInt = 1 ∧ (fa 6 5 q).toInt = -1) ((x2601_4 : Int32).toInt).toNat = smC (fun q : Nat => (w2601_a_6_6 q).toInt = 1 ∧ (fa 6 5 q).toInt = -1) ((x2601_4 : Int32).toInt).toNat := smC_cg _ (fun j hj => by rw [hF9 j (by omega)])
                      rw [← hc9] at hq8
                      rw [smC_n hs9 (fun z => by have := z.1; have := z.2; omega)]; exact hq8)) (show (v2645 : Int32).toInt ≤ ((iv 6 7) : Int32).toInt from by omega) (by omega) _ _ ls hP hD hS (lv_sub hl [0, 1, 2, 3, 4] rfl)
              · have fc2644 := z_ne (rfl : (v2643).toInt = _) (by decide : (0 : Int32).toInt = 0) c2644
                refine lv_aload_n hx hb dX6_tear_71 rfl (lv_at hl 2 rfl) ?_
                refine lv_iload hx hb dX6_tear_72 (lv_at hl 0 rfl) ?_
                refine vp_callSi (W.runV (As := [.int x2601_4]) (rest := []) ⟨hx, hb, hml, hown, ht⟩ (c_X6_isUndone_w l dC dI h g ca iv lv (u2 (u2 fa 6 6 f2642) 6 5 w2601_a_6_5) la (IX_a (c := 6) (k := 5) (IX_a (c := 6) (k := 6) hI hf2642) hw2601_a_6_5) x2601_4 ⟨by omega, by omega⟩) (kV 1 ht m_1079 m_1080 m_1081 m_88 m_1082 rfl rfl hd_X6_isUndone_v ⟨Nat.le_of_ble_eq_true rfl, Nat.le_of_ble_eq_true rfl⟩) (vR hP hK (rX_6 hK hP)) rfl rfl hl.1 rfl (lv_room (Nat.le_of_ble_eq_true rfl)) dX6_tear_74 ⟨Nat.le_of_ble_eq_true rfl, Nat.le_of_ble_eq_true rfl⟩) (fun r2646 hr2646 => ?_)
                obtain ⟨hr2646, xr2646_0⟩ := hr2646
                have xr2646_0 : (((r2646 : Int32).toInt = 1 ∧ (w2601_a_6_5 ((x2601_4 : Int32).toInt).toNat).toInt ≠ -1) ∨ ((r2646 : Int32).toInt = 0 ∧ (w2601_a_6_5 ((x2601_4 : Int32).toInt).toNat).toInt = -1)) := xr2646_0
                refine lv_if_ne (tgt := 91) hx hb dX6_tear_77 (by decide) (fun c2647 => ?_) (fun c2647 => ?_)
                · have fc2647 := z_ne (rfl : (r2646).toInt = _) (by decide : (0 : Int32).toInt = 0) c2647
                  obtain ⟨v2648, ev2648⟩ : ∃ y : Int32, y = x2601_4 + 1 := ⟨_, rfl⟩
                  have tv2648 := z_add ev2648 rfl (by decide : (1 : Int32).toInt = 1) (by omega) (by omega)
                  refine lv_iinc (v := v2648) (lv' := [(4, .int v2648), (3, .int x2601_3), (0, .ref (g 11 9)), (1, .int b), (2, .int d)]) hx hb dX6_tear_91 hl (k := 0) rfl (by rw [ev2648]; rfl) (by decide) rfl (fun ls hl => ?_)
                  refine lv_goto (tgt := 5) hx hb dX6_tear_94 (by decide) ?_
                  exact ih2602 v2648 x2601_3 f2642 w2601_a_6_5 ⟨by omega, by omega⟩ hf2642 hw2601_a_6_5 (show ∀ q : Nat, (q : Int) < (v2648 : Int32).toInt → ((f2642 q).toInt = 1 ↔ (q = ((b).toInt).toNat ∨ (0 ≤ ((fa 6 3) q).toInt ∧ (f2642 (((fa 6 3) q).toInt).toNat).toInt = 1))) from (by
                        have hk9 : ((((x2601_4 : Int32).toInt).toNat : Nat) : Int) = (x2601_4 : Int32).toInt := Int.toNat_of_nonneg (by omega)
                        have hO9 := hJP ((x2601_4 : Int32).toInt).toNat (by omega)
                        have hf9 : (f2642 ((x2601_4 : Int32).toInt).toNat).toInt = 0 := by rw [ef2642, show ((x2601_4 : Int32).toInt).toNat = (x2601_4 : Int32).toNatClampNeg from rfl, upd_eq] <;> decide
                        have hF9 : ∀ j : Nat, j ≠ ((x2601_4 : Int32).toInt).toNat → f2642 j = w2601_a_6_6 j := fun j hj => by rw [ef2642, upd_ne (show j ≠ (x2601_4 : Int32).toNatClampNeg from hj)]
                        have hl9 := congrArg Int32.toInt (show v2643 = f2642 ((x2601_4 : Int32).toInt).toNat from ev2643)
                        have ho9 := congrArg Int32.toInt (show v2615 = fa 6 3 ((x2601_4 : Int32).toInt).toNat from ev2615)
                        have hd9 : ((x2601_4 : Int32).toInt).toNat ≠ ((fa 6 3 ((x2601_4 : Int32).toInt).toNat).toInt).toNat ∨ (fa 6 3 ((x2601_4 : Int32).toInt).toNat).toInt < 0 := by omega
                        intro q hq
                        by_cases hj : q = ((x2601_4 : Int32).toInt).toNat
                        · rw [hj]
                          by_cases hz : 0 ≤ (fa 6 3 ((x2601_4 : Int32).toInt).toNat).toInt
                          · have hne : ((fa 6 3 ((x2601_4 : Int32).toInt).toNat).toInt).toNat ≠ ((x2601_4 : Int32).toInt).toNat := by omega
                            rw [hF9 _ hne]
                            constructor
                            · intro z; omega
                            · intro z; omega
                          · constructor
                            · intro z; omega
                            · intro z; omega
                        · have hq2 := hq2602_0 q (by omega)
                          have hO8 := hJP q (by omega)
                          rw [hF9 q hj]
                          by_cases hz : 0 ≤ (fa 6 3 q).toInt
                          · have hne : ((fa 6 3 q).toInt).toNat ≠ ((x2601_4 : Int32).toInt).toNat := by omega
                            rw [hF9 _ hne]; exact hq2
                          · constructor
                            · intro z
                              rcases hq2.mp z with z1 | z1
                              · exact Or.inl z1
                              · exact absurd z1.1 hz
                            · intro z
                              rcases z with z1 | z1
                              · exact hq2.mpr (Or.inl z1)
                              · exact absurd z1.1 hz)) (show ∀ q : Nat, (((q : Int) < (v2648 : Int32).toInt ∧ (f2642 q).toInt = 1 ∧ ((fa 6 5) q).toInt = -1) → w2601_a_6_5 q = d) ∧ (¬ ((q : Int) < (v2648 : Int32).toInt ∧ (f2642 q).toInt = 1 ∧ ((fa 6 5) q).toInt = -1) → w2601_a_6_5 q = (fa 6 5) q) from (by
                        have hk9 : ((((x2601_4 : Int32).toInt).toNat : Nat) : Int) = (x2601_4 : Int32).toInt := Int.toNat_of_nonneg (by omega)
                        have hO9 := hJP ((x2601_4 : Int32).toInt).toNat (by omega)
                        have hf9 : (f2642 ((x2601_4 : Int32).toInt).toNat).toInt = 0 := by rw [ef2642, show ((x2601_4 : Int32).toInt).toNat = (x2601_4 : Int32).toNatClampNeg from rfl, upd_eq] <;> decide
                        have hF9 : ∀ j : Nat, j ≠ ((x2601_4 : Int32).toInt).toNat → f2642 j = w2601_a_6_6 j := fun j hj => by rw [ef2642, upd_ne (show j ≠ (x2601_4 : Int32).toNatClampNeg from hj)]
                        have hl9 := congrArg Int32.toInt (show v2643 = f2642 ((x2601_4 : Int32).toInt).toNat from ev2643)
                        have ho9 := congrArg Int32.toInt (show v2615 = fa 6 3 ((x2601_4 : Int32).toInt).toNat from ev2615)
                        have hu9 := xr2646_0
                        have hU9 := (hq2602_1 ((x2601_4 : Int32).toInt).toNat).2 (by omega)
                        rw [hU9] at hu9
                        intro q
                        by_cases hj : q = ((x2601_4 : Int32).toInt).toNat
                        · rw [hj]
                          exact ⟨fun z => by exfalso; omega, fun _ => (hq2602_1 ((x2601_4 : Int32).toInt).toNat).2 (by omega)⟩
                        · rw [hF9 q hj]
                          have hq2 := hq2602_1 q
                          exact ⟨fun z => hq2.1 ⟨by omega, z.2⟩, fun z => hq2.2 (fun y => z ⟨by omega, y.2⟩)⟩)) (show (x2601_3 : Int32).toInt = (smC (fun q : Nat => (f2642 q).toInt = 1 ∧ ((fa 6 5) q).toInt = -1) ((v2648 : Int32).toInt).toNat).toInt from (by
                        have hq8 := hq2602_2
                        have hk9 : ((((x2601_4 : Int32).toInt).toNat : Nat) : Int) = (x2601_4 : Int32).toInt := Int.toNat_of_nonneg (by omega)
                        have hO9 := hJP ((x2601_4 : Int32).toInt).toNat (by omega)
                        have hf9 : (f2642 ((x2601_4 : Int32).toInt).toNat).toInt = 0 := by rw [ef2642, show ((x2601_4 : Int32).toInt).toNat = (x2601_4 : Int32).toNatClampNeg from rfl, upd_eq] <;> decide
                        have hF9 : ∀ j : Nat, j ≠ ((x2601_4 : Int32).toInt).toNat → f2642 j = w2601_a_6_6 j := fun j hj => by rw [ef2642, upd_ne (show j ≠ (x2601_4 : Int32).toNatClampNeg from hj)]
                        have hl9 := congrArg Int32.toInt (show v2643 = f2642 ((x2601_4 : Int32).toInt).toNat from ev2643)
                        have ho9 := congrArg Int32.toInt (show v2615 = fa 6 3 ((x2601_4 : Int32).toInt).toNat from ev2615)
                        have hu9 := xr2646_0
                        have hU9 := (hq2602_1 ((x2601_4 : Int32).toInt).toNat).2 (by omega)
                        rw [hU9] at hu9
                        have hs9 : ((v2648 : Int32).toInt).toNat = ((x2601_4 : Int32).toInt).toNat + 1 := by omega
                        have hc9 : smC (fun q : Nat => (f2642 q).toInt = 1 ∧ (fa 6 5 q).toInt = -1) ((x2601_4 : Int32).toInt).toNat = smC (fun q : Nat => (w2601_a_6_6 q).toInt = 1 ∧ (fa 6 5 q).toInt = -1) ((x2601_4 : Int32).toInt).toNat := smC_cg _ (fun j hj => by rw [hF9 j (by omega)])
                        rw [← hc9] at hq8
                        rw [smC_n hs9 (fun z => by have := z.1; have := z.2; omega)]; exact hq8)) (show (v2648 : Int32).toInt ≤ ((iv 6 7) : Int32).toInt from by omega) (by omega) _ _ ls hP hD hS (lv_sub hl [0, 1, 2, 3, 4] rfl)
                · have fc2647 := z_eq (rfl : (r2646).toInt = _) (by decide : (0 : Int32).toInt = 0) c2647
                  refine lv_aload_n hx hb dX6_tear_80 rfl (lv_at hl 2 rfl) ?_
                  refine gX_6_5 hx hb ht hown hK hP m_393 dX6_tear_81 ?_
                  refine lv_iload hx hb dX6_tear_84 (lv_at hl 0 rfl) ?_
                  refine lv_iload_n hx hb dX6_tear_86 rfl (lv_at hl 4 rfl) ?_
                  refine tX_6_5 hx hb hK hP hD hS (f0 := w2601_a_6_5) rfl (i := x2601_4) (x := d) (vp_in_iff.mpr ⟨by omega, by omega⟩) dX6_tear_87 (fun f2649 ef2649 H locs hP hD hS => ?_)
                  have hf2649 : ∀ j, inb (bA 6 5 j) (f2649 j) := fun j => full_i _
                  have hP : va_P (dC, dI) classes (WX h g ca iv lv (u2 (u2 fa 6 6 f2642) 6 5 f2649) la) H := hP
                  have hD : va_D A (WX h g ca iv lv (u2 (u2 fa 6 6 f2642) 6 5 f2649) la) := hD
                  obtain ⟨v2650, ev2650⟩ : ∃ y : Int32, y = x2601_3 + 1 := ⟨_, rfl⟩
                  refine lv_iinc (v := v2650) (lv' := [(3, .int v2650), (4, .int x2601_4), (0, .ref (g 11 9)), (1, .int b), (2, .int d)]) hx hb dX6_tear_88 hl (k := 1) rfl (by rw [ev2650]; rfl) (by decide) rfl (fun ls hl => ?_)
                  obtain ⟨v2651, ev2651⟩ : ∃ y : Int32, y = x2601_4 + 1 := ⟨_, rfl⟩
                  have tv2651 := z_add ev2651 rfl (by decide : (1 : Int32).toInt = 1) (by omega) (by omega)
                  refine lv_iinc (v := v2651) (lv' := [(4, .int v2651), (3, .int v2650), (0, .ref (g 11 9)), (1, .int b), (2, .int d)]) hx hb dX6_tear_91 hl (k := 1) rfl (by rw [ev2651]; rfl) (by decide) rfl (fun ls hl => ?_)
                  refine lv_goto (tgt := 5) hx hb dX6_tear_94 (by decide) ?_
                  exact ih2602 v2651 v2650 f2642 f2649 ⟨by omega, by omega⟩ hf2642 hf2649 (show ∀ q : Nat, (q : Int) < (v2651 : Int32).toInt → ((f2642 q).toInt = 1 ↔ (q = ((b).toInt).toNat ∨ (0 ≤ ((fa 6 3) q).toInt ∧ (f2642 (((fa 6 3) q).toInt).toNat).toInt = 1))) from (by
                        have hk9 : ((((x2601_4 : Int32).toInt).toNat : Nat) : Int) = (x2601_4 : Int32).toInt := Int.toNat_of_nonneg (by omega)
                        have hO9 := hJP ((x2601_4 : Int32).toInt).toNat (by omega)
                        have hf9 : (f2642 ((x2601_4 : Int32).toInt).toNat).toInt = 0 := by rw [ef2642, show ((x2601_4 : Int32).toInt).toNat = (x2601_4 : Int32).toNatClampNeg from rfl, upd_eq] <;> decide
                        have hF9 : ∀ j : Nat, j ≠ ((x2601_4 : Int32).toInt).toNat → f2642 j = w2601_a_6_6 j := fun j hj => by rw [ef2642, upd_ne (show j ≠ (x2601_4 : Int32).toNatClampNeg from hj)]
                        have hl9 := congrArg Int32.toInt (show v2643 = f2642 ((x2601_4 : Int32).toInt).toNat from ev2643)
                        have ho9 := congrArg Int32.toInt (show v2615 = fa 6 3 ((x2601_4 : Int32).toInt).toNat from ev2615)
                        have hd9 : ((x2601_4 : Int32).toInt).toNat ≠ ((fa 6 3 ((x2601_4 : Int32).toInt).toNat).toInt).toNat ∨ (fa 6 3 ((x2601_4 : Int32).toInt).toNat).toInt < 0 := by omega
                        intro q hq
                        by_cases hj : q = ((x2601_4 : Int32).toInt).toNat
                        · rw [hj]
                          by_cases hz : 0 ≤ (fa 6 3 ((x2601_4 : Int32).toInt).toNat).toInt
                          · have hne : ((fa 6 3 ((x2601_4 : Int32).toInt).toNat).toInt).toNat ≠ ((x2601_4 : Int32).toInt).toNat := by omega
                            rw [hF9 _ hne]
                            constructor
                            · intro z; omega
                            · intro z; omega
                          · constructor
                            · intro z; omega
                            · intro z; omega
                        · have hq2 := hq2602_0 q (by omega)
                          have hO8 := hJP q (by omega)
                          rw [hF9 q hj]
                          by_cases hz : 0 ≤ (fa 6 3 q).toInt
                          · have hne : ((fa 6 3 q).toInt).toNat ≠ ((x2601_4 : Int32).toInt).toNat := by omega
                            rw [hF9 _ hne]; exact hq2
                          · constructor
                            · intro z
                              rcases hq2.mp z with z1 | z1
                              · exact Or.inl z1
                              · exact absurd z1.1 hz
                            · intro z
                              rcases z with z1 | z1
                              · exact hq2.mpr (Or.inl z1)
                              · exact absurd z1.1 hz)) (show ∀ q : Nat, (((q : Int) < (v2651 : Int32).toInt ∧ (f2642 q).toInt = 1 ∧ ((fa 6 5) q).toInt = -1) → f2649 q = d) ∧ (¬ ((q : Int) < (v2651 : Int32).toInt ∧ (f2642 q).toInt = 1 ∧ ((fa 6 5) q).toInt = -1) → f2649 q = (fa 6 5) q) from (by
                        have hk9 : ((((x2601_4 : Int32).toInt).toNat : Nat) : Int) = (x2601_4 : Int32).toInt := Int.toNat_of_nonneg (by omega)
                        have hO9 := hJP ((x2601_4 : Int32).toInt).toNat (by omega)
                        have hf9 : (f2642 ((x2601_4 : Int32).toInt).toNat).toInt = 0 := by rw [ef2642, show ((x2601_4 : Int32).toInt).toNat = (x2601_4 : Int32).toNatClampNeg from rfl, upd_eq] <;> decide
                        have hF9 : ∀ j : Nat, j ≠ ((x2601_4 : Int32).toInt).toNat → f2642 j = w2601_a_6_6 j := fun j hj => by rw [ef2642, upd_ne (show j ≠ (x2601_4 : Int32).toNatClampNeg from hj)]
                        have hl9 := congrArg Int32.toInt (show v2643 = f2642 ((x2601_4 : Int32).toInt).toNat from ev2643)
                        have ho9 := congrArg Int32.toInt (show v2615 = fa 6 3 ((x2601_4 : Int32).toInt).toNat from ev2615)
                        have hu9 := xr2646_0
                        have hU9 := (hq2602_1 ((x2601_4 : Int32).toInt).toNat).2 (by omega)
                        rw [hU9] at hu9
                        have ha9 : f2649 ((x2601_4 : Int32).toInt).toNat = d := by rw [ef2649, show ((x2601_4 : Int32).toInt).toNat = (x2601_4 : Int32).toNatClampNeg from rfl, upd_eq]
                        have hA9 : ∀ j : Nat, j ≠ ((x2601_4 : Int32).toInt).toNat → f2649 j = w2601_a_6_5 j := fun j hj => by rw [ef2649, upd_ne (show j ≠ (x2601_4 : Int32).toNatClampNeg from hj)]
                        intro q
                        by_cases hj : q = ((x2601_4 : Int32).toInt).toNat
                        · rw [hj]
                          exact ⟨fun _ => ha9, fun z => absurd ⟨by omega, by omega, by omega⟩ z⟩
                        · rw [hA9 q hj, hF9 q hj]
                          have hq2 := hq2602_1 q
                          exact ⟨fun z => hq2.1 ⟨by omega, z.2⟩, fun z => hq2.2 (fun y => z ⟨by omega, y.2⟩)⟩)) (show (v2650 : Int32).toInt = (smC (fun q : Nat => (f2642 q).toInt = 1 ∧ ((fa 6 5) q).toInt = -1) ((v2651 : Int32).toInt).toNat).toInt from (by
                        have hq8 := hq2602_2
                        have hk9 : ((((x2601_4 : Int32).toInt).toNat : Nat) : Int) = (x2601_4 : Int32).toInt := Int.toNat_of_nonneg (by omega)
                        have hO9 := hJP ((x2601_4 : Int32).toInt).toNat (by omega)
                        have hf9 : (f2642 ((x2601_4 : Int32).toInt).toNat).toInt = 0 := by rw [ef2642, show ((x2601_4 : Int32).toInt).toNat = (x2601_4 : Int32).toNatClampNeg from rfl, upd_eq] <;> decide
                        have hF9 : ∀ j : Nat, j ≠ ((x2601_4 : Int32).toInt).toNat → f2642 j = w2601_a_6_6 j := fun j hj => by rw [ef2642, upd_ne (show j ≠ (x2601_4 : Int32).toNatClampNeg from hj)]
                        have hl9 := congrArg Int32.toInt (show v2643 = f2642 ((x2601_4 : Int32).toInt).toNat from ev2643)
                        have ho9 := congrArg Int32.toInt (show v2615 = fa 6 3 ((x2601_4 : Int32).toInt).toNat from ev2615)
                        have hu9 := xr2646_0
                        have hU9 := (hq2602_1 ((x2601_4 : Int32).toInt).toNat).2 (by omega)
                        rw [hU9] at hu9
                        have hs9 : ((v2651 : Int32).toInt).toNat = ((x2601_4 : Int32).toInt).toNat + 1 := by omega
                        have hc9 : smC (fun q : Nat => (f2642 q).toInt = 1 ∧ (fa 6 5 q).toInt = -1) ((x2601_4 : Int32).toInt).toNat = smC (fun q : Nat => (w2601_a_6_6 q).toInt = 1 ∧ (fa 6 5 q).toInt = -1) ((x2601_4 : Int32).toInt).toNat := smC_cg _ (fun j hj => by rw [hF9 j (by omega)])
                        rw [← hc9] at hq8
                        have h1 : x2601_3 = smC _ _ := Int32.toInt_inj.mp hq8
                        rw [smC_y hs9 ⟨by omega, by omega⟩, ← h1, ev2650])) (show (v2651 : Int32).toInt ≤ ((iv 6 7) : Int32).toInt from by omega) (by omega) _ _ ls hP hD hS (lv_sub hl [0, 1, 2, 3, 4] rfl)
            · exact absurd rfl c2641
  have : (0 : Int32).toInt = 0 := (by decide)
  have i_6_7 : 0 ≤ (iv 6 7).toInt ∧ (iv 6 7).toInt ≤ 40 := hI.1 6 7
  exact lp2602 41 0 0 (fa 6 6) (fa 6 5) ⟨by decide, by decide⟩ (hI.2 6 6) (hI.2 6 5) (show ∀ q : Nat, (q : Int) < (0 : Int32).toInt → (((fa 6 6) q).toInt = 1 ↔ (q = ((b).toInt).toNat ∨ (0 ≤ ((fa 6 3) q).toInt ∧ ((fa 6 6) (((fa 6 3) q).toInt).toNat).toInt = 1))) from fun q hq => absurd hq (by omega)) (show ∀ q : Nat, (((q : Int) < (0 : Int32).toInt ∧ ((fa 6 6) q).toInt = 1 ∧ ((fa 6 5) q).toInt = -1) → (fa 6 5) q = d) ∧ (¬ ((q : Int) < (0 : Int32).toInt ∧ ((fa 6 6) q).toInt = 1 ∧ ((fa 6 5) q).toInt = -1) → (fa 6 5) q = (fa 6 5) q) from fun q => ⟨fun z => absurd z.1 (by omega), fun _ => rfl⟩) (show (0 : Int32).toInt = (smC (fun q : Nat => ((fa 6 6) q).toInt = 1 ∧ ((fa 6 5) q).toInt = -1) ((0 : Int32).toInt).toNat).toInt from (by have hz : ((0 : Int32).toInt).toNat = 0 := (by decide); rw [hz]; exact (by decide : (0 : Int32).toInt = 0))) (show (0 : Int32).toInt ≤ ((iv 6 7) : Int32).toInt from by omega) (by first | decide | omega) _ _ ls hP hD hS (lv_sub hl [0, 1, 2, 3, 4] rfl)
