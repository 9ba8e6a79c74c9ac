/-! ===== bk2 ===== -/
set_option maxHeartbeats 4000000 in
set_option maxRecDepth 100000 in
/-- X1_strikes -/
theorem c_X1_strikes_f (l : Launch) (dC : Nat → ClassId) (dI : Nat → Nat → Nat) (h : Nat) (g : Nat → Nat → Nat) (ca : Nat → Nat → ClassId) (iv : Nat → Nat → Int32) (lv : Nat → Nat → Int64) (fa : Nat → Nat → Nat → Int32) (la : Nat → Nat → Nat → Int64) (hI : IX iv fa) (a : Int32) (b : Int32) (h_a : 0 ≤ a.toInt ∧ a.toInt ≤ 7) (h_b : 0 ≤ b.toInt ∧ b.toInt ≤ 7) : Met l yX1_strikes (wc yX1_strikes cX1_strikes 4 (some .boolean)) ({ frames := 0, cells := 0, slots := 0, locals := 0 } : Room) (pR (dC, dI) classes (WX h g ca iv lv fa la) (TX ca) [.ref (g 11 3), .int a, .int b]) (vp_Si (fun r => (0 ≤ r.toInt ∧ r.toInt ≤ 1) ∧ (((r.toInt = 1 ∧ St (fa 1 1) (mX (fa 1 2) 7) (fa 1 3) (a.toInt).toNat (b.toInt).toNat) ∨ (r.toInt = 0 ∧ ¬ St (fa 1 1) (mX (fa 1 2) 7) (fa 1 3) (a.toInt).toNat (b.toInt).toNat))))) 0 0 (fun _ => False) := by
  refine Met.ofW (cc := cX1_strikes) (maxL := 4) (ret := (some .boolean)) (by decide) rfl ?_
  intro p e s m args below meth c s₁ B hml hv
  obtain ⟨rfl, hP, hK⟩ := hv
  have hx := B.exec
  have hb := B.bytes
  have hr := B.returns
  have ht := tb_tl (atoms_spec (ws := wc yX1_strikes cX1_strikes 4 (some .boolean)) B.pre)
  have hown : s.vm.findClass RX1 = some m.cls := findClass_of_methodNamed B.named
  have hlocks := B.notSynchronized
  have hl := lv_entry [.ref (g 11 3), .int a, .int b] (n := 4) (Nat.le_of_ble_eq_true rfl)
  rw [lg_entry_eq]
  generalize (lg_sl [.ref (g 11 3), .int a, .int b] ++ List.replicate (4 - (lg_sl [.ref (g 11 3), .int a, .int b]).length) Slot.unset).toArray = ls at hl ⊢
  have hl : lv_has ls 4 [(0, .ref (g 11 3)), (1, .int a), (2, .int b)] := hl
  refine lv_iload_n hx hb dX1_strikes_0 rfl (lv_at hl 1 rfl) ?_
  refine lv_bipush (v := 12) hx hb dX1_strikes_1 (by decide) ?_
  refine lv_imul hx hb dX1_strikes_3 ?_
  refine lv_topi (fun v1 ev1 => ?_)
  have tv1 := z_mul ev1 (rfl : (a).toInt = _) (by decide : (12 : Int32).toInt = 12) (by omega) (by omega)
  refine lv_istore_n (lv' := [(3, .int v1), (0, .ref (g 11 3)), (1, .int a), (2, .int b)]) hx hb dX1_strikes_4 rfl hl (by decide) rfl (fun ls hl => ?_)
  have lp36 : ∀ (nn36 : Nat) (x35_3 : Int32), 0 ≤ x35_3.toInt ∧ x35_3.toInt ≤ 96 → (∀ j : Nat, 12 * (a).toInt ≤ (j : Int) → (j : Int) < (x35_3 : Int32).toInt → ¬ (((fa 1 2) j).toInt = 7 ∧ ((fa 1 3) j).toInt = (b).toInt)) → 12 * (a).toInt ≤ (x35_3 : Int32).toInt → 96 - x35_3.toInt < (nn36 : Int) → ∀ (ls : Array Slot), lv_has ls 4 [(3, .int x35_3), (0, .ref (g 11 3)), (1, .int a), (2, .int b)] → W p l e ({ frames := 0, cells := 0, slots := 0, locals := 0 } : Room) s m ([.ref (g 11 3), .int a, .int b] : List Value).toArray below meth c s.heap [] 0 0 (MQ below (vp_Si (fun r => (0 ≤ r.toInt ∧ r.toInt ≤ 1) ∧ (((r.toInt = 1 ∧ St (fa 1 1) (mX (fa 1 2) 7) (fa 1 3) (a.toInt).toNat (b.toInt).toNat) ∨ (r.toInt = 0 ∧ ¬ St (fa 1 1) (mX (fa 1 2) 7) (fa 1 3) (a.toInt).toNat (b.toInt).toNat))))) ([.ref (g 11 3), .int a, .int b] : List Value).toArray s 0 0 (fun _ => False)) (F0 m 5 ls []) := by
    intro nn36
    induction nn36 with
    | zero => intro x35_3 hx35_3 hq36_0 hq36_1 hm36; exfalso; omega
    | succ nn36 ih36 =>
      intro x35_3 hx35_3 hq36_0 hq36_1 hm36 ls hl
      refine lv_iload_n hx hb dX1_strikes_5 rfl (lv_at hl 0 rfl) ?_
      refine lv_iload_n hx hb dX1_strikes_6 rfl (lv_at hl 2 rfl) ?_
      refine lv_bipush (v := 12) hx hb dX1_strikes_7 (by decide) ?_
      refine lv_imul hx hb dX1_strikes_9 ?_
      refine lv_topi (fun v37 ev37 => ?_)
      obtain rfl : v1 = v37 := ev1.trans ev37.symm
      refine lv_aload_n hx hb dX1_strikes_10 rfl (lv_at hl 1 rfl) ?_
      refine gX_1_1 hx hb ht hown hK hP m_190 dX1_strikes_11 ?_
      refine lv_iload_n hx hb dX1_strikes_14 rfl (lv_at hl 2 rfl) ?_
      refine lX_1_1 hx hb hK hP (f := (fa 1 1)) rfl (vp_in_iff.mpr ⟨by omega, by omega⟩) dX1_strikes_15 ?_
      refine lv_topi (fun v38 ev38 => ?_)
      have tv38 : 0 ≤ v38.toInt ∧ v38.toInt ≤ 12 := by rw [ev38]; exact hI.2 1 1 _
      have hn9 := congrArg Int32.toInt (show v38 = fa 1 1 (a.toInt).toNat from ev38)
      refine lv_iadd hx hb dX1_strikes_16 ?_
      refine lv_topi (fun v39 ev39 => ?_)
      have tv39 := z_add ev39 (rfl : (v1).toInt = _) (rfl : (v38).toInt = _) (by omega) (by omega)
      refine lv_icmp_ge (tgt := 49) hx hb dX1_strikes_17 (by decide) (fun c40 => ?_) (fun c40 => ?_)
      · have fc40 := z_le (rfl : (v39).toInt = _) (rfl : (x35_3).toInt = _) c40
        refine lv_iconst (v := 0) hx hb dX1_strikes_49 (by decide) ?_
        have : (0 : Int32).toInt = 0 := (by decide)
        exact W.zret (v := 0) hx hb hr rfl (fun t ht9 hW => ⟨0, rfl, ⟨⟨by decide, by decide⟩, (show (((0 : Int32).toInt = 1 ∧ St (fa 1 1) (mX (fa 1 2) 7) (fa 1 3) ((a).toInt).toNat ((b).toInt).toNat) ∨ ((0 : Int32).toInt = 0 ∧ ¬ St (fa 1 1) (mX (fa 1 2) 7) (fa 1 3) ((a).toInt).toNat ((b).toInt).toNat)) from (by
              refine Or.inr ⟨by omega, ?_⟩
              rintro ⟨j, z1, z2, z3, z4⟩
              exact hq36_0 j (by omega) (by omega) ⟨z3, by omega⟩))⟩, ht9⟩) (fun q hq => by cases hq) dX1_strikes_50
      · have fc40 := z_nle (rfl : (v39).toInt = _) (rfl : (x35_3).toInt = _) c40
        refine lv_aload_n hx hb dX1_strikes_20 rfl (lv_at hl 1 rfl) ?_
        refine gX_1_2 hx hb ht hown hK hP m_191 dX1_strikes_21 ?_
        refine lv_iload_n hx hb dX1_strikes_24 rfl (lv_at hl 0 rfl) ?_
        refine lX_1_2 hx hb hK hP (f := (fa 1 2)) rfl (vp_in_iff.mpr ⟨by omega, by omega⟩) dX1_strikes_25 ?_
        refine lv_topi (fun v41 ev41 => ?_)
        refine lv_bipush (v := 7) hx hb dX1_strikes_26 (by decide) ?_
        refine lv_icmp_ne (tgt := 43) hx hb dX1_strikes_28 (by decide) (fun c42 => ?_) (fun c42 => ?_)
        · have fc42 := z_ne (rfl : (v41).toInt = _) (by decide : (7 : Int32).toInt = 7) c42
          obtain ⟨v43, ev43⟩ : ∃ y : Int32, y = x35_3 + 1 := ⟨_, rfl⟩
          have tv43 := z_add ev43 rfl (by decide : (1 : Int32).toInt = 1) (by omega) (by omega)
          refine lv_iinc (v := v43) (lv' := [(3, .int v43), (0, .ref (g 11 3)), (1, .int a), (2, .int b)]) hx hb dX1_strikes_43 hl (k := 0) rfl (by rw [ev43]; rfl) (by decide) rfl (fun ls hl => ?_)
          refine lv_goto (tgt := 5) hx hb dX1_strikes_46 (by decide) ?_
          exact ih36 v43 ⟨by omega, by omega⟩ (show ∀ j : Nat, 12 * (a).toInt ≤ (j : Int) → (j : Int) < (v43 : Int32).toInt → ¬ (((fa 1 2) j).toInt = 7 ∧ ((fa 1 3) j).toInt = (b).toInt) from (fun j h1 h2 => by
                by_cases hj : (j : Int) < (x35_3 : Int32).toInt
                · exact hq36_0 j h1 hj
                · have hj2 : j = ((x35_3 : Int32).toInt).toNat := by omega
                  rw [hj2]
                  have hv9 := congrArg Int32.toInt (show v41 = fa 1 2 ((x35_3 : Int32).toInt).toNat from ev41)
                  rintro ⟨z1, z2⟩
                  omega)) (show 12 * (a).toInt ≤ (v43 : Int32).toInt from by omega) (by omega) ls (lv_sub hl [0, 1, 2, 3] rfl)
        · have fc42 := z_eq (rfl : (v41).toInt = _) (by decide : (7 : Int32).toInt = 7) c42
          refine lv_aload_n hx hb dX1_strikes_31 rfl (lv_at hl 1 rfl) ?_
          refine gX_1_3 hx hb ht hown hK hP m_192 dX1_strikes_32 ?_
          refine lv_iload_n hx hb dX1_strikes_35 rfl (lv_at hl 0 rfl) ?_
          refine lX_1_3 hx hb hK hP (f := (fa 1 3)) rfl (vp_in_iff.mpr ⟨by omega, by omega⟩) dX1_strikes_36 ?_
          refine lv_topi (fun v44 ev44 => ?_)
          refine lv_iload_n hx hb dX1_strikes_37 rfl (lv_at hl 3 rfl) ?_
          refine lv_icmp_ne (tgt := 43) hx hb dX1_strikes_38 (by decide) (fun c45 => ?_) (fun c45 => ?_)
          · have fc45 := z_ne (rfl : (v44).toInt = _) (rfl : (b).toInt = _) c45
            obtain ⟨v46, ev46⟩ : ∃ y : Int32, y = x35_3 + 1 := ⟨_, rfl⟩
            have tv46 := z_add ev46 rfl (by decide : (1 : Int32).toInt = 1) (by omega) (by omega)
            refine lv_iinc (v := v46) (lv' := [(3, .int v46), (0, .ref (g 11 3)), (1, .int a), (2, .int b)]) hx hb dX1_strikes_43 hl (k := 0) rfl (by rw [ev46]; rfl) (by decide) rfl (fun ls hl => ?_)
            refine lv_goto (tgt := 5) hx hb dX1_strikes_46 (by decide) ?_
            exact ih36 v46 ⟨by omega, by omega⟩ (show ∀ j : Nat, 12 * (a).toInt ≤ (j : Int) → (j : Int) < (v46 : Int32).toInt → ¬ (((fa 1 2) j).toInt = 7 ∧ ((fa 1 3) j).toInt = (b).toInt) from (fun j h1 h2 => by
                  by_cases hj : (j : Int) < (x35_3 : Int32).toInt
                  · exact hq36_0 j h1 hj
                  · have hj2 : j = ((x35_3 : Int32).toInt).toNat := by omega
                    rw [hj2]
                    have hv9 := congrArg Int32.toInt (show v41 = fa 1 2 ((x35_3 : Int32).toInt).toNat from ev41)
                    have hf9 := congrArg Int32.toInt (show v44 = fa 1 3 ((x35_3 : Int32).toInt).toNat from ev44)
                    rintro ⟨z1, z2⟩
                    omega)) (show 12 * (a).toInt ≤ (v46 : Int32).toInt from by omega) (by omega) ls (lv_sub hl [0, 1, 2, 3] rfl)
          · have fc45 := z_eq (rfl : (v44).toInt = _) (rfl : (b).toInt = _) c45
            refine lv_iconst (v := 1) hx hb dX1_strikes_41 (by decide) ?_
            have : (1 : Int32).toInt = 1 := (by decide)
            exact W.zret (v := 1) hx hb hr rfl (fun t ht9 hW => ⟨1, rfl, ⟨⟨by decide, by decide⟩, (show (((1 : Int32).toInt = 1 ∧ St (fa 1 1) (mX (fa 1 2) 7) (fa 1 3) ((a).toInt).toNat ((b).toInt).toNat) ∨ ((1 : Int32).toInt = 0 ∧ ¬ St (fa 1 1) (mX (fa 1 2) 7) (fa 1 3) ((a).toInt).toNat ((b).toInt).toNat)) from (by
                  have hv9 := congrArg Int32.toInt (show v41 = fa 1 2 ((x35_3 : Int32).toInt).toNat from ev41)
                  have hf9 := congrArg Int32.toInt (show v44 = fa 1 3 ((x35_3 : Int32).toInt).toNat from ev44)
                  exact Or.inl ⟨by omega, ((x35_3 : Int32).toInt).toNat, by omega, by omega, (show (fa 1 2 ((x35_3 : Int32).toInt).toNat).toInt = 7 from by omega), by omega⟩))⟩, ht9⟩) (fun q hq => by cases hq) dX1_strikes_42
  exact lp36 97 v1 ⟨by omega, by omega⟩ (show ∀ j : Nat, 12 * (a).toInt ≤ (j : Int) → (j : Int) < (v1 : Int32).toInt → ¬ (((fa 1 2) j).toInt = 7 ∧ ((fa 1 3) j).toInt = (b).toInt) from fun j h1 h2 => absurd h1 (by omega)) (show 12 * (a).toInt ≤ (v1 : Int32).toInt from by omega) (by first | decide | omega) ls (lv_sub hl [0, 1, 2, 3] rfl)
set_option maxHeartbeats 4000000 in
set_option maxRecDepth 100000 in
/-- X1_isStruck -/
theorem c_X1_isStruck_f (l : Launch) (dC : Nat → ClassId) (dI : Nat → Nat → Nat) (h : Nat) (g : Nat → Nat → Nat) (ca : Nat → Nat → ClassId) (iv : Nat → Nat → Int32) (lv : Nat → Nat → Int64) (fa : Nat → Nat → Nat → Int32) (la : Nat → Nat → Nat → Int64) (hI : IX iv fa) (a : Int32) (h_a : 0 ≤ a.toInt ∧ a.toInt ≤ 7) : Met l yX1_isStruck (wc yX1_isStruck cX1_isStruck 3 (some .boolean)) ({ frames := 1, cells := 0, slots := 0, locals := 23 } : Room) (pR (dC, dI) classes (WX h g ca iv lv fa la) (TX ca) [.ref (g 11 3), .int a]) (vp_Si (fun r => (0 ≤ r.toInt ∧ r.toInt ≤ 1) ∧ (((r.toInt = 1 ∧ (∃ r' : Nat, (a.toInt).toNat < r' ∧ (r' : Int) < (iv 1 7).toInt ∧ ((fa 1 6) r').toInt = 1 ∧ (St (fa 1 1) (mX (fa 1 2) 7) (fa 1 3)) r' (a.toInt).toNat)) ∨ (r.toInt = 0 ∧ ¬ (∃ r' : Nat, (a.toInt).toNat < r' ∧ (r' : Int) < (iv 1 7).toInt ∧ ((fa 1 6) r').toInt = 1 ∧ (St (fa 1 1) (mX (fa 1 2) 7) (fa 1 3)) r' (a.toInt).toNat)))))) 0 0 (fun _ => False) := by
  refine Met.ofW (cc := cX1_isStruck) (maxL := 3) (ret := (some .boolean)) (by decide) rfl ?_
  intro p e s m args below meth c s₁ B hml hv
  obtain ⟨rfl, hP, hK⟩ := hv
  have hx := B.exec
  have hb := B.bytes
  have hr := B.returns
  have ht := tb_tl (atoms_spec (ws := wc yX1_isStruck cX1_isStruck 3 (some .boolean)) B.pre)
  have hown : s.vm.findClass RX1 = some m.cls := findClass_of_methodNamed B.named
  have hlocks := B.notSynchronized
  have hl := lv_entry [.ref (g 11 3), .int a] (n := 3) (Nat.le_of_ble_eq_true rfl)
  rw [lg_entry_eq]
  generalize (lg_sl [.ref (g 11 3), .int a] ++ List.replicate (3 - (lg_sl [.ref (g 11 3), .int a]).length) Slot.unset).toArray = ls at hl ⊢
  have hl : lv_has ls 3 [(0, .ref (g 11 3)), (1, .int a)] := hl
  refine lv_iload_n hx hb dX1_isStruck_0 rfl (lv_at hl 1 rfl) ?_
  refine lv_iconst (v := 1) hx hb dX1_isStruck_1 (by decide) ?_
  refine lv_iadd hx hb dX1_isStruck_2 ?_
  refine lv_topi (fun v1 ev1 => ?_)
  have tv1 := z_add ev1 (rfl : (a).toInt = _) (by decide : (1 : Int32).toInt = 1) (by omega) (by omega)
  refine lv_istore_n (lv' := [(2, .int v1), (0, .ref (g 11 3)), (1, .int a)]) hx hb dX1_isStruck_3 rfl hl (by decide) rfl (fun ls hl => ?_)
  have lp11 : ∀ (nn11 : Nat) (x10_2 : Int32), 1 ≤ x10_2.toInt ∧ x10_2.toInt ≤ 8 → (∀ r : Nat, (a).toInt < (r : Int) → (r : Int) < (x10_2 : Int32).toInt → ¬ (((fa 1 6) r).toInt = 1 ∧ (St (fa 1 1) (mX (fa 1 2) 7) (fa 1 3)) r ((a).toInt).toNat)) → (a).toInt < (x10_2 : Int32).toInt → (x10_2 : Int32).toInt ≤ 8 → 8 - x10_2.toInt < (nn11 : Int) → ∀ (ls : Array Slot), lv_has ls 3 [(2, .int x10_2), (0, .ref (g 11 3)), (1, .int a)] → W p l e ({ frames := 1, cells := 0, slots := 0, locals := 23 } : Room) s m ([.ref (g 11 3), .int a] : List Value).toArray below meth c s.heap [] 0 0 (MQ below (vp_Si (fun r => (0 ≤ r.toInt ∧ r.toInt ≤ 1) ∧ (((r.toInt = 1 ∧ (∃ r' : Nat, (a.toInt).toNat < r' ∧ (r' : Int) < (iv 1 7).toInt ∧ ((fa 1 6) r').toInt = 1 ∧ (St (fa 1 1) (mX (fa 1 2) 7) (fa 1 3)) r' (a.toInt).toNat)) ∨ (r.toInt = 0 ∧ ¬ (∃ r' : Nat, (a.toInt).toNat < r' ∧ (r' : Int) < (iv 1 7).toInt ∧ ((fa 1 6) r').toInt = 1 ∧ (St (fa 1 1) (mX (fa 1 2) 7) (fa 1 3)) r' (a.toInt).toNat)))))) ([.ref (g 11 3), .int a] : List Value).toArray s 0 0 (fun _ => False)) (F0 m 4 ls []) := by
    intro nn11
    induction nn11 with
    | zero => intro x10_2 hx10_2 hq11_0 hq11_1 hq11_2 hm11; exfalso; omega
    | succ nn11 ih11 =>
      intro x10_2 hx10_2 hq11_0 hq11_1 hq11_2 hm11 ls hl
      refine lv_iload_n hx hb dX1_isStruck_4 rfl (lv_at hl 0 rfl) ?_
      refine lv_aload_n hx hb dX1_isStruck_5 rfl (lv_at hl 1 rfl) ?_
      have i_1_7 : 0 ≤ (iv 1 7).toInt ∧ (iv 1 7).toInt ≤ 8 := hI.1 1 7
      refine gX_1_7 hx hb ht hown hK hP m_196 (v := (iv 1 7)) rfl dX1_isStruck_6 ?_
      refine lv_icmp_ge (tgt := 38) hx hb dX1_isStruck_9 (by decide) (fun c12 => ?_) (fun c12 => ?_)
      · have fc12 := z_le (rfl : ((iv 1 7)).toInt = _) (rfl : (x10_2).toInt = _) c12
        refine lv_iconst (v := 0) hx hb dX1_isStruck_38 (by decide) ?_
        have : (0 : Int32).toInt = 0 := (by decide)
        exact W.zret (v := 0) hx hb hr rfl (fun t ht9 hW => ⟨0, rfl, ⟨⟨by decide, by decide⟩, (show (((0 : Int32).toInt = 1 ∧ (∃ r' : Nat, ((a).toInt).toNat < r' ∧ (r' : Int) < ((iv 1 7) : Int32).toInt ∧ ((fa 1 6) r').toInt = 1 ∧ (St (fa 1 1) (mX (fa 1 2) 7) (fa 1 3)) r' ((a).toInt).toNat)) ∨ ((0 : Int32).toInt = 0 ∧ ¬ (∃ r' : Nat, ((a).toInt).toNat < r' ∧ (r' : Int) < ((iv 1 7) : Int32).toInt ∧ ((fa 1 6) r').toInt = 1 ∧ (St (fa 1 1) (mX (fa 1 2) 7) (fa 1 3)) r' ((a).toInt).toNat))) from (by
              refine Or.inr ⟨by omega, ?_⟩
              rintro ⟨r, z1, z2, z3, z4⟩
              exact hq11_0 r (by omega) (by omega) ⟨z3, z4⟩))⟩, ht9⟩) (fun q hq => by cases hq) dX1_isStruck_39
      · have fc12 := z_nle (rfl : ((iv 1 7)).toInt = _) (rfl : (x10_2).toInt = _) c12
        refine lv_aload_n hx hb dX1_isStruck_12 rfl (lv_at hl 1 rfl) ?_
        refine gX_1_6 hx hb ht hown hK hP m_195 dX1_isStruck_13 ?_
        refine lv_iload_n hx hb dX1_isStruck_16 rfl (lv_at hl 0 rfl) ?_
        refine lX_1_6 hx hb hK hP (f := (fa 1 6)) rfl (vp_in_iff.mpr ⟨by omega, by omega⟩) dX1_isStruck_17 ?_
        refine lv_topi (fun v13 ev13 => ?_)
        have tv13 : 0 ≤ v13.toInt ∧ v13.toInt ≤ 1 := by rw [ev13]; exact hI.2 1 6 _
        refine lv_if_eq (tgt := 32) hx hb dX1_isStruck_18 (by decide) (fun c14 => ?_) (fun c14 => ?_)
        · have fc14 := z_eq (rfl : (v13).toInt = _) (by decide : (0 : Int32).toInt = 0) c14
          obtain ⟨v15, ev15⟩ : ∃ y : Int32, y = x10_2 + 1 := ⟨_, rfl⟩
          have tv15 := z_add ev15 rfl (by decide : (1 : Int32).toInt = 1) (by omega) (by omega)
          refine lv_iinc (v := v15) (lv' := [(2, .int v15), (0, .ref (g 11 3)), (1, .int a)]) hx hb dX1_isStruck_32 hl (k := 0) rfl (by rw [ev15]; rfl) (by decide) rfl (fun ls hl => ?_)
          refine lv_goto (tgt := 4) hx hb dX1_isStruck_35 (by decide) ?_
          exact ih11 v15 ⟨by omega, by omega⟩ (show ∀ r : Nat, (a).toInt < (r : Int) → (r : Int) < (v15 : Int32).toInt → ¬ (((fa 1 6) r).toInt = 1 ∧ (St (fa 1 1) (mX (fa 1 2) 7) (fa 1 3)) r ((a).toInt).toNat) from (fun r h1 h2 => by
                by_cases hj : (r : Int) < (x10_2 : Int32).toInt
                · exact hq11_0 r h1 hj
                · have hj2 : r = ((x10_2 : Int32).toInt).toNat := by omega
                  rw [hj2]
                  have hv9 := congrArg Int32.toInt (show v13 = (fa 1 6) ((x10_2 : Int32).toInt).toNat from ev13)
                  rintro ⟨z1, z2⟩
                  omega)) (show (a).toInt < (v15 : Int32).toInt from by omega) (show (v15 : Int32).toInt ≤ 8 from by omega) (by omega) ls (lv_sub hl [0, 1, 2] rfl)
        · have fc14 := z_ne (rfl : (v13).toInt = _) (by decide : (0 : Int32).toInt = 0) c14
          refine lv_aload_n hx hb dX1_isStruck_21 rfl (lv_at hl 1 rfl) ?_
          refine lv_iload_n hx hb dX1_isStruck_22 rfl (lv_at hl 0 rfl) ?_
          refine lv_iload_n hx hb dX1_isStruck_23 rfl (lv_at hl 2 rfl) ?_
          refine vp_callSi (W.runV (As := [.int x10_2, .int a]) (rest := []) ⟨hx, hb, hml, hown, ht⟩ (c_X1_strikes_f l dC dI h g ca iv lv fa la hI x10_2 a ⟨by omega, by omega⟩ ⟨by omega, by omega⟩) (kV 2 ht m_612 m_614 m_7 m_81 m_615 rfl rfl hd_X1_strikes_v ⟨Nat.le_of_ble_eq_true rfl, Nat.le_of_ble_eq_true rfl⟩) (vR hP hK (rX_1 hK hP)) rfl rfl hl.1 rfl (lv_room (Nat.le_of_ble_eq_true rfl)) dX1_isStruck_24 ⟨Nat.le_of_ble_eq_true rfl, Nat.le_of_ble_eq_true rfl⟩) (fun r16 hr16 => ?_)
          obtain ⟨hr16, xr16_0⟩ := hr16
          have xr16_0 : (((r16 : Int32).toInt = 1 ∧ St (fa 1 1) (mX (fa 1 2) 7) (fa 1 3) ((x10_2 : Int32).toInt).toNat ((a : Int32).toInt).toNat) ∨ ((r16 : Int32).toInt = 0 ∧ ¬ St (fa 1 1) (mX (fa 1 2) 7) (fa 1 3) ((x10_2 : Int32).toInt).toNat ((a : Int32).toInt).toNat)) := xr16_0
          refine lv_if_eq (tgt := 32) hx hb dX1_isStruck_27 (by decide) (fun c17 => ?_) (fun c17 => ?_)
          · have fc17 := z_eq (rfl : (r16).toInt = _) (by decide : (0 : Int32).toInt = 0) c17
            obtain ⟨v18, ev18⟩ : ∃ y : Int32, y = x10_2 + 1 := ⟨_, rfl⟩
            have tv18 := z_add ev18 rfl (by decide : (1 : Int32).toInt = 1) (by omega) (by omega)
            refine lv_iinc (v := v18) (lv' := [(2, .int v18), (0, .ref (g 11 3)), (1, .int a)]) hx hb dX1_isStruck_32 hl (k := 0) rfl (by rw [ev18]; rfl) (by decide) rfl (fun ls hl => ?_)
            refine lv_goto (tgt := 4) hx hb dX1_isStruck_35 (by decide) ?_
            exact ih11 v18 ⟨by omega, by omega⟩ (show ∀ r : Nat, (a).toInt < (r : Int) → (r : Int) < (v18 : Int32).toInt → ¬ (((fa 1 6) r).toInt = 1 ∧ (St (fa 1 1) (mX (fa 1 2) 7) (fa 1 3)) r ((a).toInt).toNat) from (fun r h1 h2 => by
                  by_cases hj : (r : Int) < (x10_2 : Int32).toInt
                  · exact hq11_0 r h1 hj
                  · have hj2 : r = ((x10_2 : Int32).toInt).toNat := by omega
                    rw [hj2]
                    have hv9 := congrArg Int32.toInt (show v13 = (fa 1 6) ((x10_2 : Int32).toInt).toNat from ev13)
                    rintro ⟨z1, z2⟩
                    rcases xr16_0 with ⟨y1, -⟩ | ⟨-, y2⟩
                    · omega
                    · exact y2 z2)) (show (a).toInt < (v18 : Int32).toInt from by omega) (show (v18 : Int32).toInt ≤ 8 from by omega) (by omega) ls (lv_sub hl [0, 1, 2] rfl)
          · have fc17 := z_ne (rfl : (r16).toInt = _) (by decide : (0 : Int32).toInt = 0) c17
            refine lv_iconst (v := 1) hx hb dX1_isStruck_30 (by decide) ?_
            have : (1 : Int32).toInt = 1 := (by decide)
            exact W.zret (v := 1) hx hb hr rfl (fun t ht9 hW => ⟨1, rfl, ⟨⟨by decide, by decide⟩, (show (((1 : Int32).toInt = 1 ∧ (∃ r' : Nat, ((a).toInt).toNat < r' ∧ (r' : Int) < ((iv 1 7) : Int32).toInt ∧ ((fa 1 6) r').toInt = 1 ∧ (St (fa 1 1) (mX (fa 1 2) 7) (fa 1 3)) r' ((a).toInt).toNat)) ∨ ((1 : Int32).toInt = 0 ∧ ¬ (∃ r' : Nat, ((a).toInt).toNat < r' ∧ (r' : Int) < ((iv 1 7) : Int32).toInt ∧ ((fa 1 6) r').toInt = 1 ∧ (St (fa 1 1) (mX (fa 1 2) 7) (fa 1 3)) r' ((a).toInt).toNat))) from (by
                  have hv9 := congrArg Int32.toInt (show v13 = (fa 1 6) ((x10_2 : Int32).toInt).toNat from ev13)
                  rcases xr16_0 with ⟨-, y2⟩ | ⟨y1, -⟩
                  · exact Or.inl ⟨by omega, ((x10_2 : Int32).toInt).toNat, by omega, by omega, by omega, y2⟩
                  · omega))⟩, ht9⟩) (fun q hq => by cases hq) dX1_isStruck_31
  exact lp11 8 v1 ⟨by omega, by omega⟩ (show ∀ r : Nat, (a).toInt < (r : Int) → (r : Int) < (v1 : Int32).toInt → ¬ (((fa 1 6) r).toInt = 1 ∧ (St (fa 1 1) (mX (fa 1 2) 7) (fa 1 3)) r ((a).toInt).toNat) from fun r h1 h2 => absurd h1 (by omega)) (show (a).toInt < (v1 : Int32).toInt from by omega) (show (v1 : Int32).toInt ≤ 8 from by omega) (by first | decide | omega) ls (lv_sub hl [0, 1, 2] rfl)
set_option maxHeartbeats 4000000 in
set_option maxRecDepth 100000 in
/-- X1_findCounting -/
theorem c_X1_findCounting_f (l : Launch) (dC : Nat → ClassId) (dI : Nat → Nat → Nat) (sz : Nat) (h : Nat) (g : Nat → Nat → Nat) (ca : Nat → Nat → ClassId) (iv : Nat → Nat → Int32) (lv : Nat → Nat → Int64) (fa : Nat → Nat → Nat → Int32) (la : Nat → Nat → Nat → Int64) (hI : IX iv fa) (a : Int32) : Met l yX1_findCounting (wc yX1_findCounting cX1_findCounting 3 none) ({ frames := 2, cells := 0, slots := 0, locals := 45 } : Room) (pW (dC, dI) classes (WX h g ca iv lv fa la) (TX ca) sz [.ref (g 11 3), .int a]) (va_Qv (fun (u : SS) => ∃ (na_1_6 : Nat → Int32), (∀ j, inb (bA 1 6 j) (na_1_6 j)) ∧ (OnR (iv 1 7).toInt (fun r => (na_1_6 r).toInt = 1) (fa 1 0) (St (fa 1 1) (mX (fa 1 2) 7) (fa 1 3)) a.toInt) ∧ u = (iv, lv, (u2 fa 1 6 na_1_6), la)) (bX (dC, dI) h g ca (va_A (WX h g ca iv lv fa la) sz)) (va_A (WX h g ca iv lv fa la) sz)) 0 0 (va_A (WX h g ca iv lv fa la) sz) := by
  refine Met.ofW (cc := cX1_findCounting) (maxL := 3) (ret := none) (by decide) rfl ?_
  intro p e s m args below meth c s₁ B hml hv
  obtain ⟨rfl, hsz, hP, hK, hD0⟩ := hv
  have hx := B.exec
  have hb := B.bytes
  have hr := B.returns
  have ht := tb_tl (atoms_spec (ws := wc yX1_findCounting cX1_findCounting 3 none) B.pre)
  have hown : s.vm.findClass RX1 = some m.cls := findClass_of_methodNamed B.named
  have hlocks := B.notSynchronized
  subst hsz
  have hD := hD0.self (sz := s.heap.size)
  generalize hAe : va_A (WX h g ca iv lv fa la) s.heap.size = A at hD ⊢
  have hA : ∀ q : Nat, s.heap.size ≤ q → A q := fun q h => by rw [← hAe]; exact Or.inr h
  have hS : va_S A s.heap s.heap [] := va_S.rf
  have hl := lv_entry [.ref (g 11 3), .int a] (n := 3) (Nat.le_of_ble_eq_true rfl)
  rw [lg_entry_eq]
  generalize (lg_sl [.ref (g 11 3), .int a] ++ List.replicate (3 - (lg_sl [.ref (g 11 3), .int a]).length) Slot.unset).toArray = ls at hl ⊢
  have hl : lv_has ls 3 [(0, .ref (g 11 3)), (1, .int a)] := hl
  refine lv_aload_n hx hb dX1_findCounting_0 rfl (lv_at hl 0 rfl) ?_
  have i_1_7 : 0 ≤ (iv 1 7).toInt ∧ (iv 1 7).toInt ≤ 8 := hI.1 1 7
  refine gX_1_7 hx hb ht hown hK hP m_196 (v := (iv 1 7)) rfl dX1_findCounting_1 ?_
  refine lv_iconst (v := 1) hx hb dX1_findCounting_4 (by decide) ?_
  refine lv_isub hx hb dX1_findCounting_5 ?_
  refine lv_topi (fun v1 ev1 => ?_)
  have tv1 := z_sub ev1 (rfl : ((iv 1 7)).toInt = _) (by decide : (1 : Int32).toInt = 1) (by omega) (by omega)
  refine lv_istore_n (lv' := [(2, .int v1), (0, .ref (g 11 3)), (1, .int a)]) hx hb dX1_findCounting_6 rfl hl (by decide) rfl (fun ls hl => ?_)
  have lp27 : ∀ (nn27 : Nat) (x26_2 : Int32) (w26_a_1_6 : Nat → Int32), (-1) ≤ x26_2.toInt ∧ x26_2.toInt ≤ 7 → (∀ j, inb (bA 1 6 j) (w26_a_1_6 j)) → (∀ r : Nat, (x26_2 : Int32).toInt < (r : Int) → (r : Int) < ((iv 1 7) : Int32).toInt → ((w26_a_1_6 r).toInt = 1 ↔ ((fa 1 0) r).toInt ≤ (a).toInt ∧ ¬ ∃ r' : Nat, r < r' ∧ (r' : Int) < ((iv 1 7) : Int32).toInt ∧ (w26_a_1_6 r').toInt = 1 ∧ (St (fa 1 1) (mX (fa 1 2) 7) (fa 1 3)) r' r)) → -1 ≤ (x26_2 : Int32).toInt → (x26_2 : Int32).toInt < ((iv 1 7) : Int32).toInt → x26_2.toInt - (-1) < (nn27 : Int) → ∀ (H : Heap) (locs : List Loc), ∀ (ls : Array Slot), va_P (dC, dI) classes (WX h g ca iv lv (u2 fa 1 6 w26_a_1_6) la) H → va_D A (WX h g ca iv lv (u2 fa 1 6 w26_a_1_6) la) → va_S A s.heap H locs → lv_has ls 3 [(2, .int x26_2), (0, .ref (g 11 3)), (1, .int a)] → W p l e ({ frames := 2, cells := 0, slots := 0, locals := 45 } : Room) s m ([.ref (g 11 3), .int a] : List Value).toArray below meth c H locs 0 0 (MQ below (va_Qv (fun (u : SS) => ∃ (na_1_6 : Nat → Int32), (∀ j, inb (bA 1 6 j) (na_1_6 j)) ∧ (OnR (iv 1 7).toInt (fun r => (na_1_6 r).toInt = 1) (fa 1 0) (St (fa 1 1) (mX (fa 1 2) 7) (fa 1 3)) a.toInt) ∧ u = (iv, lv, (u2 fa 1 6 na_1_6), la)) (bX (dC, dI) h g ca A) A) ([.ref (g 11 3), .int a] : List Value).toArray s 0 0 A) (F0 m 7 ls []) := by
    intro nn27
    induction nn27 with
    | zero => intro x26_2 w26_a_1_6 hx26_2 hw26_a_1_6 hq27_0 hq27_1 hq27_2 hm27; exfalso; omega
    | succ nn27 ih27 =>
      intro x26_2 w26_a_1_6 hx26_2 hw26_a_1_6 hq27_0 hq27_1 hq27_2 hm27 H locs ls hP hD hS hl
      refine lv_iload_n hx hb dX1_findCounting_7 rfl (lv_at hl 0 rfl) ?_
      refine lv_if_lt (tgt := 46) hx hb dX1_findCounting_8 (by decide) (fun c28 => ?_) (fun c28 => ?_)
      · have fc28 := z_lt (rfl : (x26_2).toInt = _) (by decide : (0 : Int32).toInt = 0) c28
        have hP9 : va_P (dC, dI) classes (WX h g ca iv lv (u2 fa 1 6 w26_a_1_6) la) H := hP
        have hD9 : va_D A (WX h g ca iv lv (u2 fa 1 6 w26_a_1_6) la) := hD
        exact W.vret hx hb hr (fun t ht9 hW => ⟨⟨(iv, lv, (u2 fa 1 6 w26_a_1_6), la), rfl, ⟨w26_a_1_6, hw26_a_1_6, (show OnR ((iv 1 7) : Int32).toInt (fun r => (w26_a_1_6 r).toInt = 1) (fa 1 0) (St (fa 1 1) (mX (fa 1 2) 7) (fa 1 3)) (a).toInt from (fun r hr => hq27_0 r (by omega) hr)), rfl⟩, by rw [ht9]; exact hP9, hD9⟩, hS.F ht9⟩) hS.2.2 dX1_findCounting_46
      · have fc28 := z_nlt (rfl : (x26_2).toInt = _) (by decide : (0 : Int32).toInt = 0) c28
        refine lv_aload_n hx hb dX1_findCounting_11 rfl (lv_at hl 1 rfl) ?_
        refine gX_1_6 hx hb ht hown hK hP m_195 dX1_findCounting_12 ?_
        refine lv_iload_n hx hb dX1_findCounting_15 rfl (lv_at hl 0 rfl) ?_
        refine lv_aload_n hx hb dX1_findCounting_16 rfl (lv_at hl 1 rfl) ?_
        refine gX_1_0 hx hb ht hown hK hP m_189 dX1_findCounting_17 ?_
        refine lv_iload_n hx hb dX1_findCounting_20 rfl (lv_at hl 0 rfl) ?_
        refine lX_1_0 hx hb hK hP (f := (fa 1 0)) rfl (vp_in_iff.mpr ⟨by omega, by omega⟩) dX1_findCounting_21 ?_
        refine lv_topi (fun v29 ev29 => ?_)
        refine lv_iload_n hx hb dX1_findCounting_22 rfl (lv_at hl 2 rfl) ?_
        refine lv_icmp_gt (tgt := 38) hx hb dX1_findCounting_23 (by decide) (fun c30 => ?_) (fun c30 => ?_)
        · have fc30 := z_lt (rfl : (a).toInt = _) (rfl : (v29).toInt = _) c30
          refine lv_iconst (v := 0) hx hb dX1_findCounting_38 (by decide) ?_
          refine tX_1_6 hx hb hK hP hD hS (f0 := w26_a_1_6) rfl (i := x26_2) (x := 0) (vp_in_iff.mpr ⟨by omega, by omega⟩) dX1_findCounting_39 (fun f31 ef31 H locs hP hD hS => ?_)
          have hf31 : ∀ j, inb (bA 1 6 j) (f31 j) := by rw [ef31]; exact upd_b (b := bA 1 6) hw26_a_1_6 (show inb (0, 1) (vp_nar .boolean 0) from ⟨by decide, by decide⟩)
          have hP : va_P (dC, dI) classes (WX h g ca iv lv (u2 fa 1 6 f31) la) H := hP
          have hD : va_D A (WX h g ca iv lv (u2 fa 1 6 f31) la) := hD
          obtain ⟨v32, ev32⟩ : ∃ y : Int32, y = x26_2 + (-1) := ⟨_, rfl⟩
          have tv32 := z_add ev32 rfl (by decide : ((-1) : Int32).toInt = (-1)) (by omega) (by omega)
          refine lv_iinc (v := v32) (lv' := [(2, .int v32), (0, .ref (g 11 3)), (1, .int a)]) hx hb dX1_findCounting_40 hl (k := 0) rfl (by rw [ev32]; rfl) (by decide) rfl (fun ls hl => ?_)
          refine lv_goto (tgt := 7) hx hb dX1_findCounting_43 (by decide) ?_
          exact ih27 v32 f31 ⟨by omega, by omega⟩ hf31 (show ∀ r : Nat, (v32 : Int32).toInt < (r : Int) → (r : Int) < ((iv 1 7) : Int32).toInt → ((f31 r).toInt = 1 ↔ ((fa 1 0) r).toInt ≤ (a).toInt ∧ ¬ ∃ r' : Nat, r < r' ∧ (r' : Int) < ((iv 1 7) : Int32).toInt ∧ (f31 r').toInt = 1 ∧ (St (fa 1 1) (mX (fa 1 2) 7) (fa 1 3)) r' r) from (by
                have hv9 := congrArg Int32.toInt (show v29 = fa 1 0 ((x26_2 : Int32).toInt).toNat from ev29)
                have hw9 : (f31 ((x26_2 : Int32).toInt).toNat).toInt = 0 := by rw [ef31, show ((x26_2 : Int32).toInt).toNat = (x26_2 : Int32).toNatClampNeg from rfl, upd_eq]; decide
                intro r h1 h2
                exact OnR_step (k := ((x26_2 : Int32).toInt).toNat) (fun r h1 h2 => hq27_0 r (by omega) h2) (fun j hj => by rw [ef31, upd_ne (show j ≠ (x26_2 : Int32).toNatClampNeg from hj)]) ⟨fun q => by omega, fun q => by have := q.1; omega⟩ r (by omega) h2)) (show -1 ≤ (v32 : Int32).toInt from by omega) (show (v32 : Int32).toInt < ((iv 1 7) : Int32).toInt from by omega) (by omega) _ _ ls hP hD hS (lv_sub hl [0, 1, 2] rfl)
        · have fc30 := z_nlt (rfl : (a).toInt = _) (rfl : (v29).toInt = _) c30
          refine lv_aload_n hx hb dX1_findCounting_26 rfl (lv_at hl 1 rfl) ?_
          refine lv_iload_n hx hb dX1_findCounting_27 rfl (lv_at hl 0 rfl) ?_
          refine vp_callSi (W.runV (As := [.int x26_2]) (rest := [.int x26_2, .ref (g 1 6)]) ⟨hx, hb, hml, hown, ht⟩ (c_X1_isStruck_f l dC dI h g ca iv lv (u2 fa 1 6 w26_a_1_6) la (IX_a (c := 1) (k := 6) hI hw26_a_1_6) x26_2 ⟨by omega, by omega⟩) (kV 1 ht m_608 m_610 m_6 m_81 m_611 rfl rfl hd_X1_isStruck_v ⟨Nat.le_of_ble_eq_true rfl, Nat.le_of_ble_eq_true rfl⟩) (vR hP hK (rX_1 hK hP)) rfl rfl hl.1 rfl (lv_room (Nat.le_of_ble_eq_true rfl)) dX1_findCounting_28 ⟨Nat.le_of_ble_eq_true rfl, Nat.le_of_ble_eq_true rfl⟩) (fun r33 hr33 => ?_)
          obtain ⟨hr33, xr33_0⟩ := hr33
          have xr33_0 : (((r33 : Int32).toInt = 1 ∧ (∃ r' : Nat, ((x26_2 : Int32).toInt).toNat < r' ∧ (r' : Int) < ((iv 1 7) : Int32).toInt ∧ (w26_a_1_6 r').toInt = 1 ∧ (St (fa 1 1) (mX (fa 1 2) 7) (fa 1 3)) r' ((x26_2 : Int32).toInt).toNat)) ∨ ((r33 : Int32).toInt = 0 ∧ ¬ (∃ r' : Nat, ((x26_2 : Int32).toInt).toNat < r' ∧ (r' : Int) < ((iv 1 7) : Int32).toInt ∧ (w26_a_1_6 r').toInt = 1 ∧ (St (fa 1 1) (mX (fa 1 2) 7) (fa 1 3)) r' ((x26_2 : Int32).toInt).toNat))) := xr33_0
          refine lv_if_ne (tgt := 38) hx hb dX1_findCounting_31 (by decide) (fun c34 => ?_) (fun c34 => ?_)
          · have fc34 := z_ne (rfl : (r33).toInt = _) (by decide : (0 : Int32).toInt = 0) c34
            refine lv_iconst (v := 0) hx hb dX1_findCounting_38 (by decide) ?_
            refine tX_1_6 hx hb hK hP hD hS (f0 := w26_a_1_6) rfl (i := x26_2) (x := 0) (vp_in_iff.mpr ⟨by omega, by omega⟩) dX1_findCounting_39 (fun f35 ef35 H locs hP hD hS => ?_)
            have hf35 : ∀ j, inb (bA 1 6 j) (f35 j) := by rw [ef35]; exact upd_b (b := bA 1 6) hw26_a_1_6 (show inb (0, 1) (vp_nar .boolean 0) from ⟨by decide, by decide⟩)
            have hP : va_P (dC, dI) classes (WX h g ca iv lv (u2 fa 1 6 f35) la) H := hP
            have hD : va_D A (WX h g ca iv lv (u2 fa 1 6 f35) la) := hD
            obtain ⟨v36, ev36⟩ : ∃ y : Int32, y = x26_2 + (-1) := ⟨_, rfl⟩
            have tv36 := z_add ev36 rfl (by decide : ((-1) : Int32).toInt = (-1)) (by omega) (by omega)
            refine lv_iinc (v := v36) (lv' := [(2, .int v36), (0, .ref (g 11 3)), (1, .int a)]) hx hb dX1_findCounting_40 hl (k := 0) rfl (by rw [ev36]; rfl) (by decide) rfl (fun ls hl => ?_)
            refine lv_goto (tgt := 7) hx hb dX1_findCounting_43 (by decide) ?_
            exact ih27 v36 f35 ⟨by omega, by omega⟩ hf35 (show ∀ r : Nat, (v36 : Int32).toInt < (r : Int) → (r : Int) < ((iv 1 7) : Int32).toInt → ((f35 r).toInt = 1 ↔ ((fa 1 0) r).toInt ≤ (a).toInt ∧ ¬ ∃ r' : Nat, r < r' ∧ (r' : Int) < ((iv 1 7) : Int32).toInt ∧ (f35 r').toInt = 1 ∧ (St (fa 1 1) (mX (fa 1 2) 7) (fa 1 3)) r' r) from (by
                  have hv9 := congrArg Int32.toInt (show v29 = fa 1 0 ((x26_2 : Int32).toInt).toNat from ev29)
                  have hw9 : (f35 ((x26_2 : Int32).toInt).toNat).toInt = 0 := by rw [ef35, show ((x26_2 : Int32).toInt).toNat = (x26_2 : Int32).toNatClampNeg from rfl, upd_eq]; decide
                  intro r h1 h2
                  exact OnR_step (k := ((x26_2 : Int32).toInt).toNat) (fun r h1 h2 => hq27_0 r (by omega) h2) (fun j hj => by rw [ef35, upd_ne (show j ≠ (x26_2 : Int32).toNatClampNeg from hj)]) ⟨fun q => by omega, fun q => absurd (xr33_0.resolve_right (fun q => by omega)).2 q.2⟩ r (by omega) h2)) (show -1 ≤ (v36 : Int32).toInt from by omega) (show (v36 : Int32).toInt < ((iv 1 7) : Int32).toInt from by omega) (by omega) _ _ ls hP hD hS (lv_sub hl [0, 1, 2] rfl)
          · have fc34 := z_eq (rfl : (r33).toInt = _) (by decide : (0 : Int32).toInt = 0) c34
            refine lv_iconst (v := 1) hx hb dX1_findCounting_34 (by decide) ?_
            refine lv_goto (tgt := 39) hx hb dX1_findCounting_35 (by decide) ?_
            refine tX_1_6 hx hb hK hP hD hS (f0 := w26_a_1_6) rfl (i := x26_2) (x := 1) (vp_in_iff.mpr ⟨by omega, by omega⟩) dX1_findCounting_39 (fun f37 ef37 H locs hP hD hS => ?_)
            have hf37 : ∀ j, inb (bA 1 6 j) (f37 j) := by rw [ef37]; exact upd_b (b := bA 1 6) hw26_a_1_6 (show inb (0, 1) (vp_nar .boolean 1) from ⟨by decide, by decide⟩)
            have hP : va_P (dC, dI) classes (WX h g ca iv lv (u2 fa 1 6 f37) la) H := hP
            have hD : va_D A (WX h g ca iv lv (u2 fa 1 6 f37) la) := hD
            obtain ⟨v38, ev38⟩ : ∃ y : Int32, y = x26_2 + (-1) := ⟨_, rfl⟩
            have tv38 := z_add ev38 rfl (by decide : ((-1) : Int32).toInt = (-1)) (by omega) (by omega)
            refine lv_iinc (v := v38) (lv' := [(2, .int v38), (0, .ref (g 11 3)), (1, .int a)]) hx hb dX1_findCounting_40 hl (k := 0) rfl (by rw [ev38]; rfl) (by decide) rfl (fun ls hl => ?_)
            refine lv_goto (tgt := 7) hx hb dX1_findCounting_43 (by decide) ?_
            exact ih27 v38 f37 ⟨by omega, by omega⟩ hf37 (show ∀ r : Nat, (v38 : Int32).toInt < (r : Int) → (r : Int) < ((iv 1 7) : Int32).toInt → ((f37 r).toInt = 1 ↔ ((fa 1 0) r).toInt ≤ (a).toInt ∧ ¬ ∃ r' : Nat, r < r' ∧ (r' : Int) < ((iv 1 7) : Int32).toInt ∧ (f37 r').toInt = 1 ∧ (St (fa 1 1) (mX (fa 1 2) 7) (fa 1 3)) r' r) from (by
                  have hv9 := congrArg Int32.toInt (show v29 = fa 1 0 ((x26_2 : Int32).toInt).toNat from ev29)
                  have hw9 : (f37 ((x26_2 : Int32).toInt).toNat).toInt = 1 := by rw [ef37, show ((x26_2 : Int32).toInt).toNat = (x26_2 : Int32).toNatClampNeg from rfl, upd_eq]; decide
                  intro r h1 h2
                  exact OnR_step (k := ((x26_2 : Int32).toInt).toNat) (fun r h1 h2 => hq27_0 r (by omega) h2) (fun j hj => by rw [ef37, upd_ne (show j ≠ (x26_2 : Int32).toNatClampNeg from hj)]) ⟨fun _ => ⟨by omega, (xr33_0.resolve_left (fun q => by omega)).2⟩, fun _ => hw9⟩ r (by omega) h2)) (show -1 ≤ (v38 : Int32).toInt from by omega) (show (v38 : Int32).toInt < ((iv 1 7) : Int32).toInt from by omega) (by omega) _ _ ls hP hD hS (lv_sub hl [0, 1, 2] rfl)
  exact lp27 9 v1 (fa 1 6) ⟨by omega, by omega⟩ (hI.2 1 6) (show ∀ r : Nat, (v1 : Int32).toInt < (r : Int) → (r : Int) < ((iv 1 7) : Int32).toInt → (((fa 1 6) r).toInt = 1 ↔ ((fa 1 0) r).toInt ≤ (a).toInt ∧ ¬ ∃ r' : Nat, r < r' ∧ (r' : Int) < ((iv 1 7) : Int32).toInt ∧ ((fa 1 6) r').toInt = 1 ∧ (St (fa 1 1) (mX (fa 1 2) 7) (fa 1 3)) r' r) from fun r h1 h2 => absurd h1 (by omega)) (show -1 ≤ (v1 : Int32).toInt from by omega) (show (v1 : Int32).toInt < ((iv 1 7) : Int32).toInt from by omega) (by first | decide | omega) _ _ ls hP hD hS (lv_sub hl [0, 1, 2] rfl)
