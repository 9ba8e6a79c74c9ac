/-! ===== re5 ===== -/
set_option maxHeartbeats 4000000 in
set_option maxRecDepth 100000 in
/-- X12_rule -/
theorem c_X12_rule_r (l : Launch) (dC : Nat → ClassId) (dI : Nat → Nat → Nat) (sz : Nat) (h : Nat) (g : Nat → Nat → Nat) (ca : Nat → Nat → ClassId) (iv : Nat → Nat → Int32) (lv : Nat → Nat → Int64) (fa : Nat → Nat → Nat → Int32) (la : Nat → Nat → Nat → Int64) (hI : IX iv fa) (a : Int32) (hJC : JCf (iv 12 23).toInt (fa 12 25) (fa 12 26) (fa 12 27) (fa 12 28)) (hJT : ∀ j : Nat, 0 ≤ (fa 12 32 j).toInt) : Met l yX12_rule (wc yX12_rule cX12_rule 4 (some .int)) ({ frames := 4, cells := 0, slots := 0, locals := 95 } : Room) (pW (dC, dI) classes (WM h g ca iv lv fa la) (TM ca) sz [.ref h, .int a]) (va_Qi (fun r (u : SS) => ∃ (na_12_24 : Nat → Int32) (na_12_25 : Nat → Int32) (na_12_26 : Nat → Int32) (na_12_27 : Nat → Int32) (na_12_28 : Nat → Int32) (na_12_29 : Nat → Int32) (na_12_30 : Nat → Int32) (na_12_31 : Nat → Int32) (ni_12_23 : Int32) (ni_12_33 : Int32) (ni_12_34 : Int32) (ni_12_35 : Int32) (ni_12_36 : Int32) (ni_12_37 : Int32) (ni_12_38 : Int32), (∀ j, inb (bA 12 25 j) (na_12_25 j)) ∧ (∀ j, inb (bA 12 30 j) (na_12_30 j)) ∧ inb (bI 12 23) ni_12_23 ∧ inb (bI 12 33) ni_12_33 ∧ inb (bI 12 34) ni_12_34 ∧ inb (bI 12 35) ni_12_35 ∧ inb (bI 12 37) ni_12_37 ∧ inb (bI 12 38) ni_12_38 ∧ (JCf (ni_12_23).toInt na_12_25 na_12_26 na_12_27 na_12_28) ∧ (((r.toInt = -100002 ∧ ¬ (0 ≤ a.toInt ∧ a.toInt ≤ 3000) ∧ (ni_12_33).toInt = (iv 12 33).toInt ∧ (ni_12_23).toInt = (iv 12 23).toInt ∧ (ni_12_36).toInt = (iv 12 36).toInt) ∨ (r.toInt = -100004 ∧ (0 ≤ a.toInt ∧ a.toInt ≤ 3000) ∧ 8 ≤ (iv 12 23).toInt ∧ (ni_12_33).toInt = (iv 12 33).toInt ∧ (ni_12_23).toInt = (iv 12 23).toInt ∧ (ni_12_36).toInt = (iv 12 36).toInt) ∨ ((0 ≤ a.toInt ∧ a.toInt ≤ 3000) ∧ (iv 12 23).toInt < 8 ∧ (ni_12_33).toInt = 0 ∧ ((ni_12_35).toInt ≠ 0 ∨ (ni_12_36).toInt = -1) ∧ (∃ c : Nat, Out (fun j => sg ((fa 12 32) j).toInt) (iv 12 33).toInt (iv 12 23).toInt (ni_12_35).toInt (ni_12_36).toInt c (fun i => if (na_12_26 (12 * ((iv 12 23).toInt).toNat + i)).toInt = 0 then (na_12_27 (12 * ((iv 12 23).toInt).toNat + i)).toInt else (na_12_26 (12 * ((iv 12 23).toInt).toNat + i)).toInt + 4) (fun i => (na_12_28 (12 * ((iv 12 23).toInt).toNat + i)).toInt) (fun i => (na_12_29 (12 * ((iv 12 23).toInt).toNat + i)).toInt) (fun i j => if (j : Int) < (na_12_30 (12 * ((iv 12 23).toInt).toNat + i)).toInt then (na_12_31 (8 * (12 * ((iv 12 23).toInt).toNat + i) + j)).toInt else 0) ∧ ((ni_12_35).toInt ≠ 0 ∨ ((na_12_25 ((iv 12 23).toInt).toNat).toInt = (c : Int) ∧ na_12_24 ((iv 12 23).toInt).toNat = a ∧ (∀ j : Nat, 12 * (iv 12 23).toInt ≤ (j : Int) → (j : Int) < 12 * (iv 12 23).toInt + (c : Int) → gk (na_12_26 j) (na_12_27 j)) ∧ ∀ j : Nat, 12 * (iv 12 23).toInt ≤ (j : Int) → (j : Int) < 12 * (iv 12 23).toInt + (c : Int) → (na_12_26 j).toInt = 2 → ∀ q : Nat, (q : Int) < (na_12_30 j).toInt → 97 ≤ (na_12_31 (8 * j + q)).toInt))) ∧ (((ni_12_35).toInt = 0 ∧ r.toInt = (iv 12 23).toInt ∧ (ni_12_23).toInt = (iv 12 23).toInt + 1) ∨ ((ni_12_35).toInt ≠ 0 ∧ r.toInt = -10 - (ni_12_35).toInt ∧ (ni_12_23).toInt = (iv 12 23).toInt))))) ∧ (∀ j : Nat, (j : Int) < 12 * (iv 12 23).toInt → na_12_26 j = (fa 12 26) j ∧ na_12_27 j = (fa 12 27) j ∧ na_12_28 j = (fa 12 28) j ∧ na_12_29 j = (fa 12 29) j ∧ na_12_30 j = (fa 12 30) j) ∧ (∀ j : Nat, (j : Int) < 96 * (iv 12 23).toInt → na_12_31 j = (fa 12 31) j) ∧ (∀ j : Nat, j ≠ ((iv 12 23).toInt).toNat → na_12_24 j = (fa 12 24) j ∧ na_12_25 j = (fa 12 25) j) ∧ ((-100004) ≤ r.toInt ∧ r.toInt ≤ 7) ∧ u = ((u2 (u2 (u2 (u2 (u2 (u2 (u2 iv 12 23 ni_12_23) 12 33 ni_12_33) 12 34 ni_12_34) 12 35 ni_12_35) 12 36 ni_12_36) 12 37 ni_12_37) 12 38 ni_12_38), lv, (u2 (u2 (u2 (u2 (u2 (u2 (u2 (u2 fa 12 24 na_12_24) 12 25 na_12_25) 12 26 na_12_26) 12 27 na_12_27) 12 28 na_12_28) 12 29 na_12_29) 12 30 na_12_30) 12 31 na_12_31), la)) (bM (dC, dI) h g ca (va_A (WM h g ca iv lv fa la) sz)) (va_A (WM h g ca iv lv fa la) sz)) 0 0 (va_A (WM h g ca iv lv fa la) sz) := by
  refine Met.ofW (cc := cX12_rule) (maxL := 4) (ret := (some .int)) (by decide) rfl ?_
  intro p e s m args below meth c s₁ B hml hv
  obtain ⟨rfl, hsz, hP, hK, hD0⟩ := hv
  have hx := B.exec
  have hb := B.bytes
  have hr := B.returns
  have ht := tb_tl (atoms_spec (ws := wc yX12_rule cX12_rule 4 (some .int)) B.pre)
  have hown : s.vm.findClass RX12 = some m.cls := findClass_of_methodNamed B.named
  have hlocks := B.notSynchronized
  subst hsz
  have hD := hD0.self (sz := s.heap.size)
  generalize hAe : va_A (WM h g ca iv lv fa la) s.heap.size = A at hD ⊢
  have hA : ∀ q : Nat, s.heap.size ≤ q → A q := fun q h => by rw [← hAe]; exact Or.inr h
  have hS : va_S A s.heap s.heap [] := va_S.rf
  have hl := lv_entry [.ref h, .int a] (n := 4) (Nat.le_of_ble_eq_true rfl)
  rw [lg_entry_eq]
  generalize (lg_sl [.ref h, .int a] ++ List.replicate (4 - (lg_sl [.ref h, .int a]).length) Slot.unset).toArray = ls at hl ⊢
  have hl : lv_has ls 4 [(0, .ref h), (1, .int a)] := hl
  refine lv_iload_n hx hb dX12_rule_0 rfl (lv_at hl 1 rfl) ?_
  refine vp_callSi (W.runS (As := [.int a]) (rest := []) ⟨hx, hb, hml, hown, ht⟩ (c_X12_isDay l dC dI a) (kS 1 ht m_1422 m_1423 m_89 m_1424 rfl rfl hd_X12_isDay_v ⟨Nat.le_of_ble_eq_true rfl, Nat.le_of_ble_eq_true rfl⟩) (sR noP (hK.sub (tys' := []) [] rfl)) rfl rfl hl.1 rfl (lv_room (Nat.le_of_ble_eq_true rfl)) dX12_rule_1 ⟨Nat.le_of_ble_eq_true rfl, Nat.le_of_ble_eq_true rfl⟩) (fun r1 hr1 => ?_)
  rcases hr1 with ⟨rfl, fr1⟩ | ⟨rfl, fr1⟩
  · skip
    refine lv_if_ne (tgt := 10) hx hb dX12_rule_4 (by decide) (fun c2 => ?_) (fun c2 => ?_)
    · skip
      refine lv_aload_n hx hb dX12_rule_10 rfl (lv_at hl 0 rfl) ?_
      have i_12_23 : 0 ≤ (iv 12 23).toInt ∧ (iv 12 23).toInt ≤ 8 := hI.1 12 23
      refine gM_12_23 hx hb ht hown hK hP m_1162 (v := (iv 12 23)) rfl dX12_rule_11 ?_
      refine lv_bipush (v := 8) hx hb dX12_rule_14 (by decide) ?_
      refine lv_icmp_ne (tgt := 22) hx hb dX12_rule_16 (by decide) (fun c3 => ?_) (fun c3 => ?_)
      · have fc3 := z_ne (rfl : ((iv 12 23)).toInt = _) (by decide : (8 : Int32).toInt = 8) c3
        refine lv_aload_n hx hb dX12_rule_22 rfl (lv_at hl 0 rfl) ?_
        refine lv_iconst (v := 0) hx hb dX12_rule_23 (by decide) ?_
        refine pM_12_34 (v := 0) hx hb ht hown hK hP hD hS m_1173 dX12_rule_24 (fun H locs hP hD hS => ?_)
        refine lv_aload_n hx hb dX12_rule_27 rfl (lv_at hl 0 rfl) ?_
        refine lv_iconst (v := 0) hx hb dX12_rule_28 (by decide) ?_
        refine pM_12_35 (v := 0) hx hb ht hown hK hP hD hS m_1174 dX12_rule_29 (fun H locs hP hD hS => ?_)
        refine lv_aload_n hx hb dX12_rule_32 rfl (lv_at hl 0 rfl) ?_
        refine lv_iconst (v := (-1)) hx hb dX12_rule_33 (by decide) ?_
        refine pM_12_36 (v := (-1)) hx hb ht hown hK hP hD hS m_1175 dX12_rule_34 (fun H locs hP hD hS => ?_)
        refine lv_iconst (v := 0) hx hb dX12_rule_37 (by decide) ?_
        refine lv_istore_n (lv' := [(2, .int 0), (0, .ref h), (1, .int a)]) hx hb dX12_rule_38 rfl hl (by decide) rfl (fun ls hl => ?_)
        have i_12_33 : 0 ≤ (iv 12 33).toInt ∧ (iv 12 33).toInt ≤ 200 := hI.1 12 33
        have lp1358 : ∀ (nn1358 : Nat) (x1357_2 : Int32) (w1357_i_12_34 : Int32) (w1357_i_12_35 : Int32) (w1357_i_12_36 : Int32) (w1357_i_12_37 : Int32) (w1357_i_12_38 : Int32) (w1357_a_12_26 : Nat → Int32) (w1357_a_12_28 : Nat → Int32) (w1357_a_12_30 : Nat → Int32) (w1357_a_12_29 : Nat → Int32) (w1357_a_12_31 : Nat → Int32) (w1357_a_12_27 : Nat → Int32), 0 ≤ x1357_2.toInt ∧ x1357_2.toInt ≤ 12 → 0 ≤ w1357_i_12_34.toInt ∧ w1357_i_12_34.toInt ≤ 200 → 0 ≤ w1357_i_12_35.toInt ∧ w1357_i_12_35.toInt ≤ 5 → 0 ≤ w1357_i_12_37.toInt ∧ w1357_i_12_37.toInt ≤ 200 → 0 ≤ w1357_i_12_38.toInt ∧ w1357_i_12_38.toInt ≤ 200 → (∀ j, inb (bA 12 26 j) (w1357_a_12_26 j)) → (∀ j, inb (bA 12 28 j) (w1357_a_12_28 j)) → (∀ j, inb (bA 12 30 j) (w1357_a_12_30 j)) → (∀ j, inb (bA 12 29 j) (w1357_a_12_29 j)) → (∀ j, inb (bA 12 31 j) (w1357_a_12_31 j)) → (∀ j, inb (bA 12 27 j) (w1357_a_12_27 j)) → (∀ j : Nat, (j : Int) < 12 * ((iv 12 23) : Int32).toInt → w1357_a_12_26 j = (fa 12 26) j ∧ w1357_a_12_27 j = (fa 12 27) j ∧ w1357_a_12_28 j = (fa 12 28) j) → (((w1357_i_12_35 : Int32).toInt ≠ 0 ∨ ∀ j : Nat, 12 * ((iv 12 23) : Int32).toInt ≤ (j : Int) → (j : Int) < 12 * ((iv 12 23) : Int32).toInt + (x1357_2 : Int32).toInt → gd3 (w1357_a_12_26 j) (w1357_a_12_27 j) (w1357_a_12_28 j))) → ((((w1357_i_12_35 : Int32).toInt = 0 ∧ (w1357_i_12_36 : Int32).toInt = -1 ∧ Pf (fun j => sg ((fa 12 32) j).toInt) ((iv 12 33) : Int32).toInt ((iv 12 23) : Int32).toInt (fun i => if (w1357_a_12_26 (12 * (((iv 12 23) : Int32).toInt).toNat + i)).toInt = 0 then (w1357_a_12_27 (12 * (((iv 12 23) : Int32).toInt).toNat + i)).toInt else (w1357_a_12_26 (12 * (((iv 12 23) : Int32).toInt).toNat + i)).toInt + 4) (fun i => (w1357_a_12_28 (12 * (((iv 12 23) : Int32).toInt).toNat + i)).toInt) (fun i => (w1357_a_12_29 (12 * (((iv 12 23) : Int32).toInt).toNat + i)).toInt) (fun i j => if (j : Int) < (w1357_a_12_30 (12 * (((iv 12 23) : Int32).toInt).toNat + i)).toInt then (w1357_a_12_31 (8 * (12 * (((iv 12 23) : Int32).toInt).toNat + i) + j)).toInt else 0) ((x1357_2 : Int32).toInt).toNat (w1357_i_12_34 : Int32).toInt) ∨ ((w1357_i_12_35 : Int32).toInt ≠ 0 ∧ ∃ c : Nat, Out (fun j => sg ((fa 12 32) j).toInt) ((iv 12 33) : Int32).toInt ((iv 12 23) : Int32).toInt (w1357_i_12_35 : Int32).toInt (w1357_i_12_36 : Int32).toInt c (fun i => if (w1357_a_12_26 (12 * (((iv 12 23) : Int32).toInt).toNat + i)).toInt = 0 then (w1357_a_12_27 (12 * (((iv 12 23) : Int32).toInt).toNat + i)).toInt else (w1357_a_12_26 (12 * (((iv 12 23) : Int32).toInt).toNat + i)).toInt + 4) (fun i => (w1357_a_12_28 (12 * (((iv 12 23) : Int32).toInt).toNat + i)).toInt) (fun i => (w1357_a_12_29 (12 * (((iv 12 23) : Int32).toInt).toNat + i)).toInt) (fun i j => if (j : Int) < (w1357_a_12_30 (12 * (((iv 12 23) : Int32).toInt).toNat + i)).toInt then (w1357_a_12_31 (8 * (12 * (((iv 12 23) : Int32).toInt).toNat + i) + j)).toInt else 0)))) → 0 ≤ (x1357_2 : Int32).toInt → (∀ j : Nat, (j : Int) < 12 * ((iv 12 23) : Int32).toInt → w1357_a_12_29 j = (fa 12 29) j ∧ w1357_a_12_30 j = (fa 12 30) j) → (∀ j : Nat, (j : Int) < 96 * ((iv 12 23) : Int32).toInt → w1357_a_12_31 j = (fa 12 31) j) → (((w1357_i_12_35 : Int32).toInt ≠ 0 ∨ ∀ j : Nat, 12 * ((iv 12 23) : Int32).toInt ≤ (j : Int) → (j : Int) < 12 * ((iv 12 23) : Int32).toInt + (x1357_2 : Int32).toInt → gk (w1357_a_12_26 j) (w1357_a_12_27 j))) → (((w1357_i_12_35 : Int32).toInt ≠ 0 ∨ ∀ j : Nat, 12 * ((iv 12 23) : Int32).toInt ≤ (j : Int) → (j : Int) < 12 * ((iv 12 23) : Int32).toInt + (x1357_2 : Int32).toInt → (w1357_a_12_26 j).toInt = 2 → ∀ q : Nat, (q : Int) < (w1357_a_12_30 j).toInt → 97 ≤ (w1357_a_12_31 (8 * j + q)).toInt)) → 402 - (w1357_i_12_34 : Int32).toInt - 201 * min 1 (w1357_i_12_35 : Int32).toInt < (nn1358 : Int) → ∀ (H : Heap) (locs : List Loc), ∀ (ls : Array Slot), va_P (dC, dI) classes (WM h g ca (u2 (u2 (u2 (u2 (u2 iv 12 34 w1357_i_12_34) 12 35 w1357_i_12_35) 12 36 w1357_i_12_36) 12 37 w1357_i_12_37) 12 38 w1357_i_12_38) lv (u2 (u2 (u2 (u2 (u2 (u2 fa 12 26 w1357_a_12_26) 12 28 w1357_a_12_28) 12 30 w1357_a_12_30) 12 29 w1357_a_12_29) 12 31 w1357_a_12_31) 12 27 w1357_a_12_27) la) H → va_D A (WM h g ca (u2 (u2 (u2 (u2 (u2 iv 12 34 w1357_i_12_34) 12 35 w1357_i_12_35) 12 36 w1357_i_12_36) 12 37 w1357_i_12_37) 12 38 w1357_i_12_38) lv (u2 (u2 (u2 (u2 (u2 (u2 fa 12 26 w1357_a_12_26) 12 28 w1357_a_12_28) 12 30 w1357_a_12_30) 12 29 w1357_a_12_29) 12 31 w1357_a_12_31) 12 27 w1357_a_12_27) la) → va_S A s.heap H locs → lv_has ls 4 [(2, .int x1357_2), (0, .ref h), (1, .int a)] → W p l e ({ frames := 4, cells := 0, slots := 0, locals := 95 } : Room) s m ([.ref h, .int a] : List Value).toArray below meth c H locs 0 0 (MQ below (va_Qi (fun r (u : SS) => ∃ (na_12_24 : Nat → Int32) (na_12_25 : Nat → Int32) (na_12_26 : Nat → Int32) (na_12_27 : Nat → Int32) (na_12_28 : Nat → Int32) (na_12_29 : Nat → Int32) (na_12_30 : Nat → Int32) (na_12_31 : Nat → Int32) (ni_12_23 : Int32) (ni_12_33 : Int32) (ni_12_34 : Int32) (ni_12_35 : Int32) (ni_12_36 : Int32) (ni_12_37 : Int32) (ni_12_38 : Int32), (∀ j, inb (bA 12 25 j) (na_12_25 j)) ∧ (∀ j, inb (bA 12 30 j) (na_12_30 j)) ∧ inb (bI 12 23) ni_12_23 ∧ inb (bI 12 33) ni_12_33 ∧ inb (bI 12 34) ni_12_34 ∧ inb (bI 12 35) ni_12_35 ∧ inb (bI 12 37) ni_12_37 ∧ inb (bI 12 38) ni_12_38 ∧ (JCf (ni_12_23).toInt na_12_25 na_12_26 na_12_27 na_12_28) ∧ (((r.toInt = -100002 ∧ ¬ (0 ≤ a.toInt ∧ a.toInt ≤ 3000) ∧ (ni_12_33).toInt = (iv 12 33).toInt ∧ (ni_12_23).toInt = (iv 12 23).toInt ∧ (ni_12_36).toInt = (iv 12 36).toInt) ∨ (r.toInt = -100004 ∧ (0 ≤ a.toInt ∧ a.toInt ≤ 3000) ∧ 8 ≤ (iv 12 23).toInt ∧ (ni_12_33).toInt = (iv 12 33).toInt ∧ (ni_12_23).toInt = (iv 12 23).toInt ∧ (ni_12_36).toInt = (iv 12 36).toInt) ∨ ((0 ≤ a.toInt ∧ a.toInt ≤ 3000) ∧ (iv 12 23).toInt < 8 ∧ (ni_12_33).toInt = 0 ∧ ((ni_12_35).toInt ≠ 0 ∨ (ni_12_36).toInt = -1) ∧ (∃ c : Nat, Out (fun j => sg ((fa 12 32) j).toInt) (iv 12 33).toInt (iv 12 23).toInt (ni_12_35).toInt (ni_12_36).toInt c (fun i => if (na_12_26 (12 * ((iv 12 23).toInt).toNat + i)).toInt = 0 then (na_12_27 (12 * ((iv 12 23).toInt).toNat + i)).toInt else (na_12_26 (12 * ((iv 12 23).toInt).toNat + i)).toInt + 4) (fun i => (na_12_28 (12 * ((iv 12 23).toInt).toNat + i)).toInt) (fun i => (na_12_29 (12 * ((iv 12 23).toInt).toNat + i)).toInt) (fun i j => if (j : Int) < (na_12_30 (12 * ((iv 12 23).toInt).toNat + i)).toInt then (na_12_31 (8 * (12 * ((iv 12 23).toInt).toNat + i) + j)).toInt else 0) ∧ ((ni_12_35).toInt ≠ 0 ∨ ((na_12_25 ((iv 12 23).toInt).toNat).toInt = (c : Int) ∧ na_12_24 ((iv 12 23).toInt).toNat = a ∧ (∀ j : Nat, 12 * (iv 12 23).toInt ≤ (j : Int) → (j : Int) < 12 * (iv 12 23).toInt + (c : Int) → gk (na_12_26 j) (na_12_27 j)) ∧ ∀ j : Nat, 12 * (iv 12 23).toInt ≤ (j : Int) → (j : Int) < 12 * (iv 12 23).toInt + (c : Int) → (na_12_26 j).toInt = 2 → ∀ q : Nat, (q : Int) < (na_12_30 j).toInt → 97 ≤ (na_12_31 (8 * j + q)).toInt))) ∧ (((ni_12_35).toInt = 0 ∧ r.toInt = (iv 12 23).toInt ∧ (ni_12_23).toInt = (iv 12 23).toInt + 1) ∨ ((ni_12_35).toInt ≠ 0 ∧ r.toInt = -10 - (ni_12_35).toInt ∧ (ni_12_23).toInt = (iv 12 23).toInt))))) ∧ (∀ j : Nat, (j : Int) < 12 * (iv 12 23).toInt → na_12_26 j = (fa 12 26) j ∧ na_12_27 j = (fa 12 27) j ∧ na_12_28 j = (fa 12 28) j ∧ na_12_29 j = (fa 12 29) j ∧ na_12_30 j = (fa 12 30) j) ∧ (∀ j : Nat, (j : Int) < 96 * (iv 12 23).toInt → na_12_31 j = (fa 12 31) j) ∧ (∀ j : Nat, j ≠ ((iv 12 23).toInt).toNat → na_12_24 j = (fa 12 24) j ∧ na_12_25 j = (fa 12 25) j) ∧ ((-100004) ≤ r.toInt ∧ r.toInt ≤ 7) ∧ u = ((u2 (u2 (u2 (u2 (u2 (u2 (u2 iv 12 23 ni_12_23) 12 33 ni_12_33) 12 34 ni_12_34) 12 35 ni_12_35) 12 36 ni_12_36) 12 37 ni_12_37) 12 38 ni_12_38), lv, (u2 (u2 (u2 (u2 (u2 (u2 (u2 (u2 fa 12 24 na_12_24) 12 25 na_12_25) 12 26 na_12_26) 12 27 na_12_27) 12 28 na_12_28) 12 29 na_12_29) 12 30 na_12_30) 12 31 na_12_31), la)) (bM (dC, dI) h g ca A) A) ([.ref h, .int a] : List Value).toArray s 0 0 A) (F0 m 39 ls []) := by
          intro nn1358
          induction nn1358 with
          | zero => intro x1357_2 w1357_i_12_34 w1357_i_12_35 w1357_i_12_36 w1357_i_12_37 w1357_i_12_38 w1357_a_12_26 w1357_a_12_28 w1357_a_12_30 w1357_a_12_29 w1357_a_12_31 w1357_a_12_27 hx1357_2 hw1357_i_12_34 hw1357_i_12_35 hw1357_i_12_37 hw1357_i_12_38 hw1357_a_12_26 hw1357_a_12_28 hw1357_a_12_30 hw1357_a_12_29 hw1357_a_12_31 hw1357_a_12_27 hq1358_0 hq1358_1 hq1358_2 hq1358_3 hq1358_4 hq1358_5 hq1358_6 hq1358_7 hm1358; exfalso; omega
          | succ nn1358 ih1358 =>
            intro x1357_2 w1357_i_12_34 w1357_i_12_35 w1357_i_12_36 w1357_i_12_37 w1357_i_12_38 w1357_a_12_26 w1357_a_12_28 w1357_a_12_30 w1357_a_12_29 w1357_a_12_31 w1357_a_12_27 hx1357_2 hw1357_i_12_34 hw1357_i_12_35 hw1357_i_12_37 hw1357_i_12_38 hw1357_a_12_26 hw1357_a_12_28 hw1357_a_12_30 hw1357_a_12_29 hw1357_a_12_31 hw1357_a_12_27 hq1358_0 hq1358_1 hq1358_2 hq1358_3 hq1358_4 hq1358_5 hq1358_6 hq1358_7 hm1358 H locs ls hP hD hS hl
            refine lv_aload_n hx hb dX12_rule_39 rfl (lv_at hl 1 rfl) ?_
            refine gM_12_35 hx hb ht hown hK hP m_1174 (v := w1357_i_12_35) rfl dX12_rule_40 ?_
            refine lv_if_ne (tgt := 213) hx hb dX12_rule_43 (by decide) (fun c1359 => ?_) (fun c1359 => ?_)
            · have fc1359 := z_ne (rfl : (w1357_i_12_35).toInt = _) (by decide : (0 : Int32).toInt = 0) c1359
              refine lv_aload_n hx hb dX12_rule_213 rfl (lv_at hl 1 rfl) ?_
              refine lv_iconst (v := 0) hx hb dX12_rule_214 (by decide) ?_
              refine pM_12_33 (v := 0) hx hb ht hown hK hP hD hS m_1172 dX12_rule_215 (fun H locs hP hD hS => ?_)
              refine lv_aload_n hx hb dX12_rule_218 rfl (lv_at hl 1 rfl) ?_
              refine gM_12_35 hx hb ht hown hK hP m_1174 (v := w1357_i_12_35) rfl dX12_rule_219 ?_
              refine lv_if_le (tgt := 233) hx hb dX12_rule_222 (by decide) (fun c1360 => ?_) (fun c1360 => ?_)
              · have fc1360 := z_le (rfl : (w1357_i_12_35).toInt = _) (by decide : (0 : Int32).toInt = 0) c1360; exfalso; omega
              · skip
                refine lv_bipush (v := (-10)) hx hb dX12_rule_225 (by decide) ?_
                refine lv_aload_n hx hb dX12_rule_227 rfl (lv_at hl 1 rfl) ?_
                refine gM_12_35 hx hb ht hown hK hP m_1174 (v := w1357_i_12_35) rfl dX12_rule_228 ?_
                refine lv_isub hx hb dX12_rule_231 ?_
                refine lv_topi (fun v1361 ev1361 => ?_)
                have tv1361 := z_sub ev1361 (by decide : ((-10) : Int32).toInt = (-10)) (rfl : (w1357_i_12_35).toInt = _) (by omega) (by omega)
                have : (0 : Int32).toInt = 0 := (by decide)
                have hP9 : va_P (dC, dI) classes (WM h g ca (u2 (u2 (u2 (u2 (u2 (u2 (u2 iv 12 23 (iv 12 23)) 12 33 0) 12 34 w1357_i_12_34) 12 35 w1357_i_12_35) 12 36 w1357_i_12_36) 12 37 w1357_i_12_37) 12 38 w1357_i_12_38) lv (u2 (u2 (u2 (u2 (u2 (u2 (u2 (u2 fa 12 24 (fa 12 24)) 12 25 (fa 12 25)) 12 26 w1357_a_12_26) 12 27 w1357_a_12_27) 12 28 w1357_a_12_28) 12 29 w1357_a_12_29) 12 30 w1357_a_12_30) 12 31 w1357_a_12_31) la) H := hP
                have hD9 : va_D A (WM h g ca (u2 (u2 (u2 (u2 (u2 (u2 (u2 iv 12 23 (iv 12 23)) 12 33 0) 12 34 w1357_i_12_34) 12 35 w1357_i_12_35) 12 36 w1357_i_12_36) 12 37 w1357_i_12_37) 12 38 w1357_i_12_38) lv (u2 (u2 (u2 (u2 (u2 (u2 (u2 (u2 fa 12 24 (fa 12 24)) 12 25 (fa 12 25)) 12 26 w1357_a_12_26) 12 27 w1357_a_12_27) 12 28 w1357_a_12_28) 12 29 w1357_a_12_29) 12 30 w1357_a_12_30) 12 31 w1357_a_12_31) la) := hD
                exact W.iret (v := v1361) hx hb hr (fun t ht9 hW => ⟨⟨v1361, ((u2 (u2 (u2 (u2 (u2 (u2 (u2 iv 12 23 (iv 12 23)) 12 33 0) 12 34 w1357_i_12_34) 12 35 w1357_i_12_35) 12 36 w1357_i_12_36) 12 37 w1357_i_12_37) 12 38 w1357_i_12_38), lv, (u2 (u2 (u2 (u2 (u2 (u2 (u2 (u2 fa 12 24 (fa 12 24)) 12 25 (fa 12 25)) 12 26 w1357_a_12_26) 12 27 w1357_a_12_27) 12 28 w1357_a_12_28) 12 29 w1357_a_12_29) 12 30 w1357_a_12_30) 12 31 w1357_a_12_31), la), rfl, ⟨(fa 12 24), (fa 12 25), w1357_a_12_26, w1357_a_12_27, w1357_a_12_28, w1357_a_12_29, w1357_a_12_30, w1357_a_12_31, (iv 12 23), 0, w1357_i_12_34, w1357_i_12_35, w1357_i_12_36, w1357_i_12_37, w1357_i_12_38, (hI.2 12 25), hw1357_a_12_30, (hI.1 12 23), (show inb (0, 200) 0 from ⟨by decide, by decide⟩), (show inb (0, 200) w1357_i_12_34 from ⟨by omega, by omega⟩), (show inb (0, 5) w1357_i_12_35 from ⟨by omega, by omega⟩), (show inb (0, 200) w1357_i_12_37 from ⟨by omega, by omega⟩), (show inb (0, 200) w1357_i_12_38 from ⟨by omega, by omega⟩), (show JCf ((iv 12 23) : Int32).toInt (fa 12 25) w1357_a_12_26 w1357_a_12_27 w1357_a_12_28 from (JC_keep hJC (hI.2 12 25) hq1358_0)), (show (((v1361 : Int32).toInt = -100002 ∧ ¬ (0 ≤ (a).toInt ∧ (a).toInt ≤ 3000) ∧ (0 : Int32).toInt = (iv 12 33).toInt ∧ ((iv 12 23) : Int32).toInt = (iv 12 23).toInt ∧ (w1357_i_12_36 : Int32).toInt = (iv 12 36).toInt) ∨ ((v1361 : Int32).toInt = -100004 ∧ (0 ≤ (a).toInt ∧ (a).toInt ≤ 3000) ∧ 8 ≤ (iv 12 23).toInt ∧ (0 : Int32).toInt = (iv 12 33).toInt ∧ ((iv 12 23) : Int32).toInt = (iv 12 23).toInt ∧ (w1357_i_12_36 : Int32).toInt = (iv 12 36).toInt) ∨ ((0 ≤ (a).toInt ∧ (a).toInt ≤ 3000) ∧ (iv 12 23).toInt < 8 ∧ (0 : Int32).toInt = 0 ∧ ((w1357_i_12_35 : Int32).toInt ≠ 0 ∨ (w1357_i_12_36 : Int32).toInt = -1) ∧ (∃ c : Nat, Out (fun j => sg ((fa 12 32) j).toInt) (iv 12 33).toInt (iv 12 23).toInt (w1357_i_12_35 : Int32).toInt (w1357_i_12_36 : Int32).toInt c (fun i => if (w1357_a_12_26 (12 * ((iv 12 23).toInt).toNat + i)).toInt = 0 then (w1357_a_12_27 (12 * ((iv 12 23).toInt).toNat + i)).toInt else (w1357_a_12_26 (12 * ((iv 12 23).toInt).toNat + i)).toInt + 4) (fun i => (w1357_a_12_28 (12 * ((iv 12 23).toInt).toNat + i)).toInt) (fun i => (w1357_a_12_29 (12 * ((iv 12 23).toInt).toNat + i)).toInt) (fun i j => if (j : Int) < (w1357_a_12_30 (12 * ((iv 12 23).toInt).toNat + i)).toInt then (w1357_a_12_31 (8 * (12 * ((iv 12 23).toInt).toNat + i) + j)).toInt else 0) ∧ ((w1357_i_12_35 : Int32).toInt ≠ 0 ∨ (((fa 12 25) ((iv 12 23).toInt).toNat).toInt = (c : Int) ∧ (fa 12 24) ((iv 12 23).toInt).toNat = a ∧ (∀ j : Nat, 12 * (iv 12 23).toInt ≤ (j : Int) → (j : Int) < 12 * (iv 12 23).toInt + (c : Int) → gk (w1357_a_12_26 j) (w1357_a_12_27 j)) ∧ ∀ j : Nat, 12 * (iv 12 23).toInt ≤ (j : Int) → (j : Int) < 12 * (iv 12 23).toInt + (c : Int) → (w1357_a_12_26 j).toInt = 2 → ∀ q : Nat, (q : Int) < (w1357_a_12_30 j).toInt → 97 ≤ (w1357_a_12_31 (8 * j + q)).toInt))) ∧ (((w1357_i_12_35 : Int32).toInt = 0 ∧ (v1361 : Int32).toInt = (iv 12 23).toInt ∧ ((iv 12 23) : Int32).toInt = (iv 12 23).toInt + 1) ∨ ((w1357_i_12_35 : Int32).toInt ≠ 0 ∧ (v1361 : Int32).toInt = -10 - (w1357_i_12_35 : Int32).toInt ∧ ((iv 12 23) : Int32).toInt = (iv 12 23).toInt)))) from (by
                      rcases hq1358_2 with ⟨yi1, -⟩ | ⟨yi1, yc, yi2⟩
                      · exfalso; omega
                      · exact Or.inr (Or.inr ⟨⟨by omega, by omega⟩, by omega, by omega, Or.inl (by omega), ⟨yc, yi2, Or.inl (by omega)⟩, Or.inr ⟨by omega, by omega, by omega⟩⟩))), (show ∀ j : Nat, (j : Int) < 12 * (iv 12 23).toInt → w1357_a_12_26 j = (fa 12 26) j ∧ w1357_a_12_27 j = (fa 12 27) j ∧ w1357_a_12_28 j = (fa 12 28) j ∧ w1357_a_12_29 j = (fa 12 29) j ∧ w1357_a_12_30 j = (fa 12 30) j from (fun j h => ⟨(hq1358_0 j h).1, (hq1358_0 j h).2.1, (hq1358_0 j h).2.2, (hq1358_4 j h).1, (hq1358_4 j h).2⟩)), (show ∀ j : Nat, (j : Int) < 96 * (iv 12 23).toInt → w1357_a_12_31 j = (fa 12 31) j from hq1358_5), (show ∀ j : Nat, j ≠ ((iv 12 23).toInt).toNat → (fa 12 24) j = (fa 12 24) j ∧ (fa 12 25) j = (fa 12 25) j from fun j h => ⟨rfl, rfl⟩), ⟨by omega, by omega⟩, rfl⟩, by rw [ht9]; exact hP9, hD9⟩, hS.F ht9⟩) hS.2.2 dX12_rule_232
            · have fc1359 := z_eq (rfl : (w1357_i_12_35).toInt = _) (by decide : (0 : Int32).toInt = 0) c1359
              refine lv_aload_n hx hb dX12_rule_46 rfl (lv_at hl 1 rfl) ?_
              have hFc := free_all hD hS hA
              refine va_calli (va_runV (As := []) (rest := []) ⟨hx, hb, hml, hown, ht⟩ (c_X12_here_r l dC dI H.size h g ca (u2 (u2 (u2 (u2 (u2 iv 12 34 w1357_i_12_34) 12 35 w1357_i_12_35) 12 36 w1357_i_12_36) 12 37 w1357_i_12_37) 12 38 w1357_i_12_38) lv (u2 (u2 (u2 (u2 (u2 (u2 fa 12 26 w1357_a_12_26) 12 28 w1357_a_12_28) 12 30 w1357_a_12_30) 12 29 w1357_a_12_29) 12 31 w1357_a_12_31) 12 27 w1357_a_12_27) la (IX_a (c := 12) (k := 27) (IX_a (c := 12) (k := 31) (IX_a (c := 12) (k := 29) (IX_a (c := 12) (k := 30) (IX_a (c := 12) (k := 28) (IX_a (c := 12) (k := 26) (IX_i (c := 12) (k := 38) (IX_i (c := 12) (k := 37) (IX_i (c := 12) (k := 36) (IX_i (c := 12) (k := 35) (IX_i (c := 12) (k := 34) hI (show inb (0, 200) w1357_i_12_34 from ⟨by omega, by omega⟩)) (show inb (0, 5) w1357_i_12_35 from ⟨by omega, by omega⟩)) (full_i _)) (show inb (0, 200) w1357_i_12_37 from ⟨by omega, by omega⟩)) (show inb (0, 200) w1357_i_12_38 from ⟨by omega, by omega⟩)) hw1357_a_12_26) hw1357_a_12_28) hw1357_a_12_30) hw1357_a_12_29) hw1357_a_12_31) hw1357_a_12_27)) (kV 0 ht m_1458 m_1460 m_47 m_89 m_1461 rfl rfl hd_X12_here_v ⟨Nat.le_of_ble_eq_true rfl, Nat.le_of_ble_eq_true rfl⟩) (vW hP hK hD (rM_12 hK hP)) rfl rfl hl.1 rfl (lv_room (Nat.le_of_ble_eq_true rfl)) dX12_rule_47 ⟨Nat.le_of_ble_eq_true rfl, Nat.le_of_ble_eq_true rfl⟩) hS (fun q _ h => hFc q h) hFc (fun r1362 u t H1 locs ht9 hvm hr1362 hB hz1 hk1 hS => ?_)
              obtain ⟨n1363, hn1363, xr1362_0, xr1362_1, xr1362_2, hr1362, rfl⟩ := hr1362
              have hn1363 : 0 ≤ n1363.toInt ∧ n1363.toInt ≤ 200 := hn1363
              obtain ⟨hP, hD⟩ := hB
              rw [ht9] at hP
              generalize H1 = H at hP hS ⊢
              have hP : va_P (dC, dI) classes (WM h g ca (u2 (u2 (u2 (u2 (u2 iv 12 34 n1363) 12 35 w1357_i_12_35) 12 36 w1357_i_12_36) 12 37 w1357_i_12_37) 12 38 w1357_i_12_38) lv (u2 (u2 (u2 (u2 (u2 (u2 fa 12 26 w1357_a_12_26) 12 28 w1357_a_12_28) 12 30 w1357_a_12_30) 12 29 w1357_a_12_29) 12 31 w1357_a_12_31) 12 27 w1357_a_12_27) la) H := hP
              have hD : va_D A (WM h g ca (u2 (u2 (u2 (u2 (u2 iv 12 34 n1363) 12 35 w1357_i_12_35) 12 36 w1357_i_12_36) 12 37 w1357_i_12_37) 12 38 w1357_i_12_38) lv (u2 (u2 (u2 (u2 (u2 (u2 fa 12 26 w1357_a_12_26) 12 28 w1357_a_12_28) 12 30 w1357_a_12_30) 12 29 w1357_a_12_29) 12 31 w1357_a_12_31) 12 27 w1357_a_12_27) la) := (show va_D _ (WM h g ca (u2 (u2 (u2 (u2 (u2 iv 12 34 n1363) 12 35 w1357_i_12_35) 12 36 w1357_i_12_36) 12 37 w1357_i_12_37) 12 38 w1357_i_12_38) lv (u2 (u2 (u2 (u2 (u2 (u2 fa 12 26 w1357_a_12_26) 12 28 w1357_a_12_28) 12 30 w1357_a_12_30) 12 29 w1357_a_12_29) 12 31 w1357_a_12_31) 12 27 w1357_a_12_27) la) from hD).weaken (fun _ _ _ h => hFc _ h)
              have xr1362_0 : (w1357_i_12_34 : Int32).toInt ≤ (n1363 : Int32).toInt := xr1362_0
              have xr1362_1 : Sk (fun j => sg ((fa 12 32) j).toInt) ((iv 12 33) : Int32).toInt (w1357_i_12_34 : Int32).toInt (n1363 : Int32).toInt := xr1362_1
              have xr1362_2 : (((r1362 : Int32).toInt = -1 ∧ ((iv 12 33) : Int32).toInt ≤ (n1363 : Int32).toInt) ∨ ((n1363 : Int32).toInt < ((iv 12 33) : Int32).toInt ∧ (r1362 : Int32).toInt = ((fa 12 32) ((n1363 : Int32).toInt).toNat).toInt)) := xr1362_2
              have hx9 := hJT ((n1363 : Int32).toInt).toNat
              refine lv_if_lt (tgt := 213) hx hb dX12_rule_50 (by decide) (fun c1364 => ?_) (fun c1364 => ?_)
              · have fc1364 := z_lt (rfl : (r1362).toInt = _) (by decide : (0 : Int32).toInt = 0) c1364
                refine lv_aload_n hx hb dX12_rule_213 rfl (lv_at hl 1 rfl) ?_
                refine lv_iconst (v := 0) hx hb dX12_rule_214 (by decide) ?_
                refine pM_12_33 (v := 0) hx hb ht hown hK hP hD hS m_1172 dX12_rule_215 (fun H locs hP hD hS => ?_)
                refine lv_aload_n hx hb dX12_rule_218 rfl (lv_at hl 1 rfl) ?_
                refine gM_12_35 hx hb ht hown hK hP m_1174 (v := w1357_i_12_35) rfl dX12_rule_219 ?_
                refine lv_if_le (tgt := 233) hx hb dX12_rule_222 (by decide) (fun c1365 => ?_) (fun c1365 => ?_)
                · skip
                  refine lv_aload_n hx hb dX12_rule_233 rfl (lv_at hl 1 rfl) ?_
                  refine gM_12_25 hx hb ht hown hK hP m_1164 dX12_rule_234 ?_
                  refine lv_aload_n hx hb dX12_rule_237 rfl (lv_at hl 1 rfl) ?_
                  refine gM_12_23 hx hb ht hown hK hP m_1162 (v := (iv 12 23)) rfl dX12_rule_238 ?_
                  refine lv_iload_n hx hb dX12_rule_241 rfl (lv_at hl 0 rfl) ?_
                  refine tM_12_25 hx hb hK hP hD hS (f0 := (fa 12 25)) rfl (i := (iv 12 23)) (x := x1357_2) (vp_in_iff.mpr ⟨by omega, by omega⟩) dX12_rule_242 (fun f1366 ef1366 H locs hP hD hS => ?_)
                  have hf1366 : ∀ j, inb (bA 12 25 j) (f1366 j) := by rw [ef1366]; exact upd_b (b := bA 12 25) (hI.2 12 25) (show inb (0, 12) x1357_2 from ⟨by omega, by omega⟩)
                  refine lv_aload_n hx hb dX12_rule_243 rfl (lv_at hl 1 rfl) ?_
                  refine gM_12_24 hx hb ht hown hK hP m_1163 dX12_rule_244 ?_
                  refine lv_aload_n hx hb dX12_rule_247 rfl (lv_at hl 1 rfl) ?_
                  refine gM_12_23 hx hb ht hown hK hP m_1162 (v := (iv 12 23)) rfl dX12_rule_248 ?_
                  refine lv_iload_n hx hb dX12_rule_251 rfl (lv_at hl 2 rfl) ?_
                  refine tM_12_24 hx hb hK hP hD hS (f0 := (fa 12 24)) rfl (i := (iv 12 23)) (x := a) (vp_in_iff.mpr ⟨by omega, by omega⟩) dX12_rule_252 (fun f1367 ef1367 H locs hP hD hS => ?_)
                  have hf1367 : ∀ j, inb (bA 12 24 j) (f1367 j) := fun j => full_i _
                  refine lv_aload_n hx hb dX12_rule_253 rfl (lv_at hl 1 rfl) ?_
                  refine lv_dup hx hb dX12_rule_254 rfl ?_
                  refine gM_12_23 hx hb ht hown hK hP m_1162 (v := (iv 12 23)) rfl dX12_rule_255 ?_
                  refine lv_iconst (v := 1) hx hb dX12_rule_258 (by decide) ?_
                  refine lv_iadd hx hb dX12_rule_259 ?_
                  refine lv_topi (fun v1368 ev1368 => ?_)
                  have tv1368 := z_add ev1368 (rfl : ((iv 12 23)).toInt = _) (by decide : (1 : Int32).toInt = 1) (by omega) (by omega)
                  refine pM_12_23 (v := v1368) hx hb ht hown hK hP hD hS m_1162 dX12_rule_260 (fun H locs hP hD hS => ?_)
                  refine lv_aload_n hx hb dX12_rule_263 rfl (lv_at hl 1 rfl) ?_
                  refine gM_12_23 hx hb ht hown hK hP m_1162 (v := v1368) rfl dX12_rule_264 ?_
                  refine lv_iconst (v := 1) hx hb dX12_rule_267 (by decide) ?_
                  refine lv_isub hx hb dX12_rule_268 ?_
                  refine lv_topi (fun v1369 ev1369 => ?_)
                  have tv1369 := z_sub ev1369 (rfl : (v1368).toInt = _) (by decide : (1 : Int32).toInt = 1) (by omega) (by omega)
                  have : (0 : Int32).toInt = 0 := (by decide)
                  have hP9 : va_P (dC, dI) classes (WM h g ca (u2 (u2 (u2 (u2 (u2 (u2 (u2 iv 12 23 v1368) 12 33 0) 12 34 n1363) 12 35 w1357_i_12_35) 12 36 w1357_i_12_36) 12 37 w1357_i_12_37) 12 38 w1357_i_12_38) lv (u2 (u2 (u2 (u2 (u2 (u2 (u2 (u2 fa 12 24 f1367) 12 25 f1366) 12 26 w1357_a_12_26) 12 27 w1357_a_12_27) 12 28 w1357_a_12_28) 12 29 w1357_a_12_29) 12 30 w1357_a_12_30) 12 31 w1357_a_12_31) la) H := hP
                  have hD9 : va_D A (WM h g ca (u2 (u2 (u2 (u2 (u2 (u2 (u2 iv 12 23 v1368) 12 33 0) 12 34 n1363) 12 35 w1357_i_12_35) 12 36 w1357_i_12_36) 12 37 w1357_i_12_37) 12 38 w1357_i_12_38) lv (u2 (u2 (u2 (u2 (u2 (u2 (u2 (u2 fa 12 24 f1367) 12 25 f1366) 12 26 w1357_a_12_26) 12 27 w1357_a_12_27) 12 28 w1357_a_12_28) 12 29 w1357_a_12_29) 12 30 w1357_a_12_30) 12 31 w1357_a_12_31) la) := hD
                  exact W.iret (v := v1369) hx hb hr (fun t ht9 hW => ⟨⟨v1369, ((u2 (u2 (u2 (u2 (u2 (u2 (u2 iv 12 23 v1368) 12 33 0) 12 34 n1363) 12 35 w1357_i_12_35) 12 36 w1357_i_12_36) 12 37 w1357_i_12_37) 12 38 w1357_i_12_38), lv, (u2 (u2 (u2 (u2 (u2 (u2 (u2 (u2 fa 12 24 f1367) 12 25 f1366) 12 26 w1357_a_12_26) 12 27 w1357_a_12_27) 12 28 w1357_a_12_28) 12 29 w1357_a_12_29) 12 30 w1357_a_12_30) 12 31 w1357_a_12_31), la), rfl, ⟨f1367, f1366, w1357_a_12_26, w1357_a_12_27, w1357_a_12_28, w1357_a_12_29, w1357_a_12_30, w1357_a_12_31, v1368, 0, n1363, w1357_i_12_35, w1357_i_12_36, w1357_i_12_37, w1357_i_12_38, hf1366, hw1357_a_12_30, (show inb (0, 8) v1368 from ⟨by omega, by omega⟩), (show inb (0, 200) 0 from ⟨by decide, by decide⟩), (show inb (0, 200) n1363 from ⟨by omega, by omega⟩), (show inb (0, 5) w1357_i_12_35 from ⟨by omega, by omega⟩), (show inb (0, 200) w1357_i_12_37 from ⟨by omega, by omega⟩), (show inb (0, 200) w1357_i_12_38 from ⟨by omega, by omega⟩), (show JCf (v1368 : Int32).toInt f1366 w1357_a_12_26 w1357_a_12_27 w1357_a_12_28 from (by rw [tv1368, ef1366]; exact JC_add hJC (hI.2 12 25) ⟨by omega, by omega⟩ hq1358_0 (hq1358_1.resolve_left (by omega)))), (show (((v1369 : Int32).toInt = -100002 ∧ ¬ (0 ≤ (a).toInt ∧ (a).toInt ≤ 3000) ∧ (0 : Int32).toInt = (iv 12 33).toInt ∧ (v1368 : Int32).toInt = (iv 12 23).toInt ∧ (w1357_i_12_36 : Int32).toInt = (iv 12 36).toInt) ∨ ((v1369 : Int32).toInt = -100004 ∧ (0 ≤ (a).toInt ∧ (a).toInt ≤ 3000) ∧ 8 ≤ (iv 12 23).toInt ∧ (0 : Int32).toInt = (iv 12 33).toInt ∧ (v1368 : Int32).toInt = (iv 12 23).toInt ∧ (w1357_i_12_36 : Int32).toInt = (iv 12 36).toInt) ∨ ((0 ≤ (a).toInt ∧ (a).toInt ≤ 3000) ∧ (iv 12 23).toInt < 8 ∧ (0 : Int32).toInt = 0 ∧ ((w1357_i_12_35 : Int32).toInt ≠ 0 ∨ (w1357_i_12_36 : Int32).toInt = -1) ∧ (∃ c : Nat, Out (fun j => sg ((fa 12 32) j).toInt) (iv 12 33).toInt (iv 12 23).toInt (w1357_i_12_35 : Int32).toInt (w1357_i_12_36 : Int32).toInt c (fun i => if (w1357_a_12_26 (12 * ((iv 12 23).toInt).toNat + i)).toInt = 0 then (w1357_a_12_27 (12 * ((iv 12 23).toInt).toNat + i)).toInt else (w1357_a_12_26 (12 * ((iv 12 23).toInt).toNat + i)).toInt + 4) (fun i => (w1357_a_12_28 (12 * ((iv 12 23).toInt).toNat + i)).toInt) (fun i => (w1357_a_12_29 (12 * ((iv 12 23).toInt).toNat + i)).toInt) (fun i j => if (j : Int) < (w1357_a_12_30 (12 * ((iv 12 23).toInt).toNat + i)).toInt then (w1357_a_12_31 (8 * (12 * ((iv 12 23).toInt).toNat + i) + j)).toInt else 0) ∧ ((w1357_i_12_35 : Int32).toInt ≠ 0 ∨ ((f1366 ((iv 12 23).toInt).toNat).toInt = (c : Int) ∧ f1367 ((iv 12 23).toInt).toNat = a ∧ (∀ j : Nat, 12 * (iv 12 23).toInt ≤ (j : Int) → (j : Int) < 12 * (iv 12 23).toInt + (c : Int) → gk (w1357_a_12_26 j) (w1357_a_12_27 j)) ∧ ∀ j : Nat, 12 * (iv 12 23).toInt ≤ (j : Int) → (j : Int) < 12 * (iv 12 23).toInt + (c : Int) → (w1357_a_12_26 j).toInt = 2 → ∀ q : Nat, (q : Int) < (w1357_a_12_30 j).toInt → 97 ≤ (w1357_a_12_31 (8 * j + q)).toInt))) ∧ (((w1357_i_12_35 : Int32).toInt = 0 ∧ (v1369 : Int32).toInt = (iv 12 23).toInt ∧ (v1368 : Int32).toInt = (iv 12 23).toInt + 1) ∨ ((w1357_i_12_35 : Int32).toInt ≠ 0 ∧ (v1369 : Int32).toInt = -10 - (w1357_i_12_35 : Int32).toInt ∧ (v1368 : Int32).toInt = (iv 12 23).toInt)))) from (by
                        rcases hq1358_2 with ⟨yi1, yi2, yi3⟩ | ⟨yi1, -⟩
                        · have ysn : (iv 12 33).toInt ≤ (n1363 : Int32).toInt := by omega
                          have e25 : f1366 ((iv 12 23).toInt).toNat = x1357_2 := by rw [ef1366]; exact upd_eq
                          have e24 : f1367 ((iv 12 23).toInt).toNat = a := by rw [ef1367]; exact upd_eq
                          have hc9 : (f1366 ((iv 12 23).toInt).toNat).toInt = ((((x1357_2 : Int32).toInt).toNat : Nat) : Int) := by rw [e25]; omega
                          exact Or.inr (Or.inr ⟨⟨by omega, by omega⟩, by omega, by omega, Or.inr (by omega), ⟨_, ⟨_, _, yi3, xr1362_1, Or.inl ⟨ysn, by omega⟩⟩, Or.inr ⟨hc9, e24, fun j h1 h2 => (hq1358_6.resolve_left (by omega)) j h1 (by omega), fun j h1 h2 => (hq1358_7.resolve_left (by omega)) j h1 (by omega)⟩⟩, Or.inl ⟨by omega, by omega, by omega⟩⟩)
                        · exfalso; omega)), (show ∀ j : Nat, (j : Int) < 12 * (iv 12 23).toInt → w1357_a_12_26 j = (fa 12 26) j ∧ w1357_a_12_27 j = (fa 12 27) j ∧ w1357_a_12_28 j = (fa 12 28) j ∧ w1357_a_12_29 j = (fa 12 29) j ∧ w1357_a_12_30 j = (fa 12 30) j from (fun j h => ⟨(hq1358_0 j h).1, (hq1358_0 j h).2.1, (hq1358_0 j h).2.2, (hq1358_4 j h).1, (hq1358_4 j h).2⟩)), (show ∀ j : Nat, (j : Int) < 96 * (iv 12 23).toInt → w1357_a_12_31 j = (fa 12 31) j from hq1358_5), (show ∀ j : Nat, j ≠ ((iv 12 23).toInt).toNat → f1367 j = (fa 12 24) j ∧ f1366 j = (fa 12 25) j from fun j hj => ⟨(by rw [ef1367, upd_ne (show j ≠ (iv 12 23).toNatClampNeg from hj)]), (by rw [ef1366, upd_ne (show j ≠ (iv 12 23).toNatClampNeg from hj)])⟩), ⟨by omega, by omega⟩, rfl⟩, by rw [ht9]; exact hP9, hD9⟩, hS.F ht9⟩) hS.2.2 dX12_rule_269
                · have fc1365 := z_nle (rfl : (w1357_i_12_35).toInt = _) (by decide : (0 : Int32).toInt = 0) c1365; exfalso; omega
              · have fc1364 := z_nlt (rfl : (r1362).toInt = _) (by decide : (0 : Int32).toInt = 0) c1364
                refine lv_aload_n hx hb dX12_rule_53 rfl (lv_at hl 1 rfl) ?_
                have hFc := free_all hD hS hA
                refine va_callv (va_runV (As := []) (rest := []) ⟨hx, hb, hml, hown, ht⟩ (c_X12_takeWord_r l dC dI H.size h g ca (u2 (u2 (u2 (u2 (u2 iv 12 34 n1363) 12 35 w1357_i_12_35) 12 36 w1357_i_12_36) 12 37 w1357_i_12_37) 12 38 w1357_i_12_38) lv (u2 (u2 (u2 (u2 (u2 (u2 fa 12 26 w1357_a_12_26) 12 28 w1357_a_12_28) 12 30 w1357_a_12_30) 12 29 w1357_a_12_29) 12 31 w1357_a_12_31) 12 27 w1357_a_12_27) la (IX_a (c := 12) (k := 27) (IX_a (c := 12) (k := 31) (IX_a (c := 12) (k := 29) (IX_a (c := 12) (k := 30) (IX_a (c := 12) (k := 28) (IX_a (c := 12) (k := 26) (IX_i (c := 12) (k := 38) (IX_i (c := 12) (k := 37) (IX_i (c := 12) (k := 36) (IX_i (c := 12) (k := 35) (IX_i (c := 12) (k := 34) hI (show inb (0, 200) n1363 from ⟨by omega, by omega⟩)) (show inb (0, 5) w1357_i_12_35 from ⟨by omega, by omega⟩)) (full_i _)) (show inb (0, 200) w1357_i_12_37 from ⟨by omega, by omega⟩)) (show inb (0, 200) w1357_i_12_38 from ⟨by omega, by omega⟩)) hw1357_a_12_26) hw1357_a_12_28) hw1357_a_12_30) hw1357_a_12_29) hw1357_a_12_31) hw1357_a_12_27)) (kV 0 ht m_1462 m_1464 m_48 m_89 m_1465 rfl rfl hd_X12_takeWord_v ⟨Nat.le_of_ble_eq_true rfl, Nat.le_of_ble_eq_true rfl⟩) (vW hP hK hD (rM_12 hK hP)) rfl rfl hl.1 rfl (lv_room (Nat.le_of_ble_eq_true rfl)) dX12_rule_54 ⟨Nat.le_of_ble_eq_true rfl, Nat.le_of_ble_eq_true rfl⟩) hS (fun q _ h => hFc q h) hFc (fun u t H1 locs ht9 hvm hr1370 hB hz1 hk1 hS => ?_)
                obtain ⟨n1371, n1372, n1373, hn1371, hn1372, hn1373, xr1370_0, xr1370_1, xr1370_2, xr1370_3, rfl⟩ := hr1370
                have hn1371 : 0 ≤ n1371.toInt ∧ n1371.toInt ≤ 200 := hn1371
                have hn1372 : 0 ≤ n1372.toInt ∧ n1372.toInt ≤ 200 := hn1372
                have hn1373 : 0 ≤ n1373.toInt ∧ n1373.toInt ≤ 200 := hn1373
                obtain ⟨hP, hD⟩ := hB
                rw [ht9] at hP
                generalize H1 = H at hP hS ⊢
                have hP : va_P (dC, dI) classes (WM h g ca (u2 (u2 (u2 (u2 (u2 iv 12 34 n1371) 12 35 w1357_i_12_35) 12 36 w1357_i_12_36) 12 37 n1372) 12 38 n1373) lv (u2 (u2 (u2 (u2 (u2 (u2 fa 12 26 w1357_a_12_26) 12 28 w1357_a_12_28) 12 30 w1357_a_12_30) 12 29 w1357_a_12_29) 12 31 w1357_a_12_31) 12 27 w1357_a_12_27) la) H := hP
                have hD : va_D A (WM h g ca (u2 (u2 (u2 (u2 (u2 iv 12 34 n1371) 12 35 w1357_i_12_35) 12 36 w1357_i_12_36) 12 37 n1372) 12 38 n1373) lv (u2 (u2 (u2 (u2 (u2 (u2 fa 12 26 w1357_a_12_26) 12 28 w1357_a_12_28) 12 30 w1357_a_12_30) 12 29 w1357_a_12_29) 12 31 w1357_a_12_31) 12 27 w1357_a_12_27) la) := (show va_D _ (WM h g ca (u2 (u2 (u2 (u2 (u2 iv 12 34 n1371) 12 35 w1357_i_12_35) 12 36 w1357_i_12_36) 12 37 n1372) 12 38 n1373) lv (u2 (u2 (u2 (u2 (u2 (u2 fa 12 26 w1357_a_12_26) 12 28 w1357_a_12_28) 12 30 w1357_a_12_30) 12 29 w1357_a_12_29) 12 31 w1357_a_12_31) 12 27 w1357_a_12_27) la) from hD).weaken (fun _ _ _ h => hFc _ h)
                have xr1370_0 : (n1363 : Int32).toInt ≤ (n1372 : Int32).toInt := xr1370_0
                have xr1370_1 : (n1372 : Int32).toInt + (n1373 : Int32).toInt = (n1371 : Int32).toInt := xr1370_1
                have xr1370_2 : Sk (fun j => sg ((fa 12 32) j).toInt) ((iv 12 33) : Int32).toInt (n1363 : Int32).toInt (n1372 : Int32).toInt := xr1370_2
                have xr1370_3 : Rn (fun j => sg ((fa 12 32) j).toInt) ((iv 12 33) : Int32).toInt 97 122 (n1372 : Int32).toInt (n1371 : Int32).toInt := xr1370_3
                refine lv_aload_n hx hb dX12_rule_57 rfl (lv_at hl 1 rfl) ?_
                refine lv_iconst (v := 3) hx hb dX12_rule_58 (by decide) ?_
                refine lv_bipush (v := 108) hx hb dX12_rule_59 (by decide) ?_
                refine lv_bipush (v := 101) hx hb dX12_rule_61 (by decide) ?_
                refine lv_bipush (v := 116) hx hb dX12_rule_63 (by decide) ?_
                refine lv_iconst (v := 0) hx hb dX12_rule_65 (by decide) ?_
                refine lv_iconst (v := 0) hx hb dX12_rule_66 (by decide) ?_
                refine lv_iconst (v := 0) hx hb dX12_rule_67 (by decide) ?_
                refine vp_callSi (W.runV (As := [.int 3, .int 108, .int 101, .int 116, .int 0, .int 0, .int 0]) (rest := []) ⟨hx, hb, hml, hown, ht⟩ (c_X12_isWord_g l dC dI h g ca (u2 (u2 (u2 (u2 (u2 iv 12 34 n1371) 12 35 w1357_i_12_35) 12 36 w1357_i_12_36) 12 37 n1372) 12 38 n1373) lv (u2 (u2 (u2 (u2 (u2 (u2 fa 12 26 w1357_a_12_26) 12 28 w1357_a_12_28) 12 30 w1357_a_12_30) 12 29 w1357_a_12_29) 12 31 w1357_a_12_31) 12 27 w1357_a_12_27) la (IX_a (c := 12) (k := 27) (IX_a (c := 12) (k := 31) (IX_a (c := 12) (k := 29) (IX_a (c := 12) (k := 30) (IX_a (c := 12) (k := 28) (IX_a (c := 12) (k := 26) (IX_i (c := 12) (k := 38) (IX_i (c := 12) (k := 37) (IX_i (c := 12) (k := 36) (IX_i (c := 12) (k := 35) (IX_i (c := 12) (k := 34) hI (show inb (0, 200) n1371 from ⟨by omega, by omega⟩)) (show inb (0, 5) w1357_i_12_35 from ⟨by omega, by omega⟩)) (full_i _)) (show inb (0, 200) n1372 from ⟨by omega, by omega⟩)) (show inb (0, 200) n1373 from ⟨by omega, by omega⟩)) hw1357_a_12_26) hw1357_a_12_28) hw1357_a_12_30) hw1357_a_12_29) hw1357_a_12_31) hw1357_a_12_27) 3 108 101 116 0 0 0 ⟨by decide, by decide⟩ ⟨by decide, by decide⟩ ⟨by decide, by decide⟩ ⟨by decide, by decide⟩ ⟨by decide, by decide⟩ ⟨by decide, by decide⟩ ⟨by decide, by decide⟩ (show (n1372 : Int32).toInt + (n1373 : Int32).toInt ≤ 200 from by omega)) (kV 7 ht m_1468 m_1470 m_49 m_89 m_1471 rfl rfl hd_X12_isWord_v ⟨Nat.le_of_ble_eq_true rfl, Nat.le_of_ble_eq_true rfl⟩) (vR hP hK (rM_12 hK hP)) rfl rfl hl.1 rfl (lv_room (Nat.le_of_ble_eq_true rfl)) dX12_rule_68 ⟨Nat.le_of_ble_eq_true rfl, Nat.le_of_ble_eq_true rfl⟩) (fun r1374 hr1374 => ?_)
                obtain ⟨hr1374, xr1374_0, xr1374_1⟩ := hr1374
                have : (3 : Int32).toInt = 3 := (by decide)
                have xr1374_0 : (((r1374 : Int32).toInt = 1 ∧ WdG (fun j => sg ((fa 12 32) j).toInt) (n1372 : Int32).toInt ((n1372 : Int32).toInt + (n1373 : Int32).toInt) (3 : Int32).toInt (lt6 (108 : Int32) (101 : Int32) (116 : Int32) (0 : Int32) (0 : Int32) (0 : Int32))) ∨ ((r1374 : Int32).toInt = 0 ∧ ¬ WdG (fun j => sg ((fa 12 32) j).toInt) (n1372 : Int32).toInt ((n1372 : Int32).toInt + (n1373 : Int32).toInt) (3 : Int32).toInt (lt6 (108 : Int32) (101 : Int32) (116 : Int32) (0 : Int32) (0 : Int32) (0 : Int32)))) := xr1374_0
                have xr1374_1 : ((r1374 : Int32).toInt = 0 ∨ (n1373 : Int32).toInt = (3 : Int32).toInt) := xr1374_1
                refine lv_if_eq (tgt := 78) hx hb dX12_rule_71 (by decide) (fun c1375 => ?_) (fun c1375 => ?_)
                · have fc1375 := z_eq (rfl : (r1374).toInt = _) (by decide : (0 : Int32).toInt = 0) c1375
                  refine lv_aload_n hx hb dX12_rule_78 rfl (lv_at hl 1 rfl) ?_
                  refine lv_iconst (v := 4) hx hb dX12_rule_79 (by decide) ?_
                  refine lv_bipush (v := 116) hx hb dX12_rule_80 (by decide) ?_
                  refine lv_bipush (v := 97) hx hb dX12_rule_82 (by decide) ?_
                  refine lv_bipush (v := 107) hx hb dX12_rule_84 (by decide) ?_
                  refine lv_bipush (v := 101) hx hb dX12_rule_86 (by decide) ?_
                  refine lv_iconst (v := 0) hx hb dX12_rule_88 (by decide) ?_
                  refine lv_iconst (v := 0) hx hb dX12_rule_89 (by decide) ?_
                  refine vp_callSi (W.runV (As := [.int 4, .int 116, .int 97, .int 107, .int 101, .int 0, .int 0]) (rest := []) ⟨hx, hb, hml, hown, ht⟩ (c_X12_isWord_g l dC dI h g ca (u2 (u2 (u2 (u2 (u2 iv 12 34 n1371) 12 35 w1357_i_12_35) 12 36 w1357_i_12_36) 12 37 n1372) 12 38 n1373) lv (u2 (u2 (u2 (u2 (u2 (u2 fa 12 26 w1357_a_12_26) 12 28 w1357_a_12_28) 12 30 w1357_a_12_30) 12 29 w1357_a_12_29) 12 31 w1357_a_12_31) 12 27 w1357_a_12_27) la (IX_a (c := 12) (k := 27) (IX_a (c := 12) (k := 31) (IX_a (c := 12) (k := 29) (IX_a (c := 12) (k := 30) (IX_a (c := 12) (k := 28) (IX_a (c := 12) (k := 26) (IX_i (c := 12) (k := 38) (IX_i (c := 12) (k := 37) (IX_i (c := 12) (k := 36) (IX_i (c := 12) (k := 35) (IX_i (c := 12) (k := 34) hI (show inb (0, 200) n1371 from ⟨by omega, by omega⟩)) (show inb (0, 5) w1357_i_12_35 from ⟨by omega, by omega⟩)) (full_i _)) (show inb (0, 200) n1372 from ⟨by omega, by omega⟩)) (show inb (0, 200) n1373 from ⟨by omega, by omega⟩)) hw1357_a_12_26) hw1357_a_12_28) hw1357_a_12_30) hw1357_a_12_29) hw1357_a_12_31) hw1357_a_12_27) 4 116 97 107 101 0 0 ⟨by decide, by decide⟩ ⟨by decide, by decide⟩ ⟨by decide, by decide⟩ ⟨by decide, by decide⟩ ⟨by decide, by decide⟩ ⟨by decide, by decide⟩ ⟨by decide, by decide⟩ (show (n1372 : Int32).toInt + (n1373 : Int32).toInt ≤ 200 from by omega)) (kV 7 ht m_1468 m_1470 m_49 m_89 m_1471 rfl rfl hd_X12_isWord_v ⟨Nat.le_of_ble_eq_true rfl, Nat.le_of_ble_eq_true rfl⟩) (vR hP hK (rM_12 hK hP)) rfl rfl hl.1 rfl (lv_room (Nat.le_of_ble_eq_true rfl)) dX12_rule_90 ⟨Nat.le_of_ble_eq_true rfl, Nat.le_of_ble_eq_true rfl⟩) (fun r1376 hr1376 => ?_)
                  obtain ⟨hr1376, xr1376_0, xr1376_1⟩ := hr1376
                  have : (4 : Int32).toInt = 4 := (by decide)
                  have xr1376_0 : (((r1376 : Int32).toInt = 1 ∧ WdG (fun j => sg ((fa 12 32) j).toInt) (n1372 : Int32).toInt ((n1372 : Int32).toInt + (n1373 : Int32).toInt) (4 : Int32).toInt (lt6 (116 : Int32) (97 : Int32) (107 : Int32) (101 : Int32) (0 : Int32) (0 : Int32))) ∨ ((r1376 : Int32).toInt = 0 ∧ ¬ WdG (fun j => sg ((fa 12 32) j).toInt) (n1372 : Int32).toInt ((n1372 : Int32).toInt + (n1373 : Int32).toInt) (4 : Int32).toInt (lt6 (116 : Int32) (97 : Int32) (107 : Int32) (101 : Int32) (0 : Int32) (0 : Int32)))) := xr1376_0
                  have xr1376_1 : ((r1376 : Int32).toInt = 0 ∨ (n1373 : Int32).toInt = (4 : Int32).toInt) := xr1376_1
                  refine lv_if_eq (tgt := 100) hx hb dX12_rule_93 (by decide) (fun c1377 => ?_) (fun c1377 => ?_)
                  · have fc1377 := z_eq (rfl : (r1376).toInt = _) (by decide : (0 : Int32).toInt = 0) c1377
                    refine lv_aload_n hx hb dX12_rule_100 rfl (lv_at hl 1 rfl) ?_
                    refine lv_iconst (v := 4) hx hb dX12_rule_101 (by decide) ?_
                    refine lv_bipush (v := 110) hx hb dX12_rule_102 (by decide) ?_
                    refine lv_bipush (v := 97) hx hb dX12_rule_104 (by decide) ?_
                    refine lv_bipush (v := 109) hx hb dX12_rule_106 (by decide) ?_
                    refine lv_bipush (v := 101) hx hb dX12_rule_108 (by decide) ?_
                    refine lv_iconst (v := 0) hx hb dX12_rule_110 (by decide) ?_
                    refine lv_iconst (v := 0) hx hb dX12_rule_111 (by decide) ?_
                    refine vp_callSi (W.runV (As := [.int 4, .int 110, .int 97, .int 109, .int 101, .int 0, .int 0]) (rest := []) ⟨hx, hb, hml, hown, ht⟩ (c_X12_isWord_g l dC dI h g ca (u2 (u2 (u2 (u2 (u2 iv 12 34 n1371) 12 35 w1357_i_12_35) 12 36 w1357_i_12_36) 12 37 n1372) 12 38 n1373) lv (u2 (u2 (u2 (u2 (u2 (u2 fa 12 26 w1357_a_12_26) 12 28 w1357_a_12_28) 12 30 w1357_a_12_30) 12 29 w1357_a_12_29) 12 31 w1357_a_12_31) 12 27 w1357_a_12_27) la (IX_a (c := 12) (k := 27) (IX_a (c := 12) (k := 31) (IX_a (c := 12) (k := 29) (IX_a (c := 12) (k := 30) (IX_a (c := 12) (k := 28) (IX_a (c := 12) (k := 26) (IX_i (c := 12) (k := 38) (IX_i (c := 12) (k := 37) (IX_i (c := 12) (k := 36) (IX_i (c := 12) (k := 35) (IX_i (c := 12) (k := 34) hI (show inb (0, 200) n1371 from ⟨by omega, by omega⟩)) (show inb (0, 5) w1357_i_12_35 from ⟨by omega, by omega⟩)) (full_i _)) (show inb (0, 200) n1372 from ⟨by omega, by omega⟩)) (show inb (0, 200) n1373 from ⟨by omega, by omega⟩)) hw1357_a_12_26) hw1357_a_12_28) hw1357_a_12_30) hw1357_a_12_29) hw1357_a_12_31) hw1357_a_12_27) 4 110 97 109 101 0 0 ⟨by decide, by decide⟩ ⟨by decide, by decide⟩ ⟨by decide, by decide⟩ ⟨by decide, by decide⟩ ⟨by decide, by decide⟩ ⟨by decide, by decide⟩ ⟨by decide, by decide⟩ (show (n1372 : Int32).toInt + (n1373 : Int32).toInt ≤ 200 from by omega)) (kV 7 ht m_1468 m_1470 m_49 m_89 m_1471 rfl rfl hd_X12_isWord_v ⟨Nat.le_of_ble_eq_true rfl, Nat.le_of_ble_eq_true rfl⟩) (vR hP hK (rM_12 hK hP)) rfl rfl hl.1 rfl (lv_room (Nat.le_of_ble_eq_true rfl)) dX12_rule_112 ⟨Nat.le_of_ble_eq_true rfl, Nat.le_of_ble_eq_true rfl⟩) (fun r1378 hr1378 => ?_)
                    obtain ⟨hr1378, xr1378_0, xr1378_1⟩ := hr1378
                    have xr1378_0 : (((r1378 : Int32).toInt = 1 ∧ WdG (fun j => sg ((fa 12 32) j).toInt) (n1372 : Int32).toInt ((n1372 : Int32).toInt + (n1373 : Int32).toInt) (4 : Int32).toInt (lt6 (110 : Int32) (97 : Int32) (109 : Int32) (101 : Int32) (0 : Int32) (0 : Int32))) ∨ ((r1378 : Int32).toInt = 0 ∧ ¬ WdG (fun j => sg ((fa 12 32) j).toInt) (n1372 : Int32).toInt ((n1372 : Int32).toInt + (n1373 : Int32).toInt) (4 : Int32).toInt (lt6 (110 : Int32) (97 : Int32) (109 : Int32) (101 : Int32) (0 : Int32) (0 : Int32)))) := xr1378_0
                    have xr1378_1 : ((r1378 : Int32).toInt = 0 ∨ (n1373 : Int32).toInt = (4 : Int32).toInt) := xr1378_1
                    refine lv_if_eq (tgt := 122) hx hb dX12_rule_115 (by decide) (fun c1379 => ?_) (fun c1379 => ?_)
                    · have fc1379 := z_eq (rfl : (r1378).toInt = _) (by decide : (0 : Int32).toInt = 0) c1379
                      refine lv_aload_n hx hb dX12_rule_122 rfl (lv_at hl 1 rfl) ?_
                      refine lv_bipush (v := 6) hx hb dX12_rule_123 (by decide) ?_
                      refine lv_bipush (v := 115) hx hb dX12_rule_125 (by decide) ?_
                      refine lv_bipush (v := 116) hx hb dX12_rule_127 (by decide) ?_
                      refine lv_bipush (v := 114) hx hb dX12_rule_129 (by decide) ?_
                      refine lv_bipush (v := 105) hx hb dX12_rule_131 (by decide) ?_
                      refine lv_bipush (v := 107) hx hb dX12_rule_133 (by decide) ?_
                      refine lv_bipush (v := 101) hx hb dX12_rule_135 (by decide) ?_
                      refine vp_callSi (W.runV (As := [.int 6, .int 115, .int 116, .int 114, .int 105, .int 107, .int 101]) (rest := []) ⟨hx, hb, hml, hown, ht⟩ (c_X12_isWord_g l dC dI h g ca (u2 (u2 (u2 (u2 (u2 iv 12 34 n1371) 12 35 w1357_i_12_35) 12 36 w1357_i_12_36) 12 37 n1372) 12 38 n1373) lv (u2 (u2 (u2 (u2 (u2 (u2 fa 12 26 w1357_a_12_26) 12 28 w1357_a_12_28) 12 30 w1357_a_12_30) 12 29 w1357_a_12_29) 12 31 w1357_a_12_31) 12 27 w1357_a_12_27) la (IX_a (c := 12) (k := 27) (IX_a (c := 12) (k := 31) (IX_a (c := 12) (k := 29) (IX_a (c := 12) (k := 30) (IX_a (c := 12) (k := 28) (IX_a (c := 12) (k := 26) (IX_i (c := 12) (k := 38) (IX_i (c := 12) (k := 37) (IX_i (c := 12) (k := 36) (IX_i (c := 12) (k := 35) (IX_i (c := 12) (k := 34) hI (show inb (0, 200) n1371 from ⟨by omega, by omega⟩)) (show inb (0, 5) w1357_i_12_35 from ⟨by omega, by omega⟩)) (full_i _)) (show inb (0, 200) n1372 from ⟨by omega, by omega⟩)) (show inb (0, 200) n1373 from ⟨by omega, by omega⟩)) hw1357_a_12_26) hw1357_a_12_28) hw1357_a_12_30) hw1357_a_12_29) hw1357_a_12_31) hw1357_a_12_27) 6 115 116 114 105 107 101 ⟨by decide, by decide⟩ ⟨by decide, by decide⟩ ⟨by decide, by decide⟩ ⟨by decide, by decide⟩ ⟨by decide, by decide⟩ ⟨by decide, by decide⟩ ⟨by decide, by decide⟩ (show (n1372 : Int32).toInt + (n1373 : Int32).toInt ≤ 200 from by omega)) (kV 7 ht m_1468 m_1470 m_49 m_89 m_1471 rfl rfl hd_X12_isWord_v ⟨Nat.le_of_ble_eq_true rfl, Nat.le_of_ble_eq_true rfl⟩) (vR hP hK (rM_12 hK hP)) rfl rfl hl.1 rfl (lv_room (Nat.le_of_ble_eq_true rfl)) dX12_rule_137 ⟨Nat.le_of_ble_eq_true rfl, Nat.le_of_ble_eq_true rfl⟩) (fun r1380 hr1380 => ?_)
                      obtain ⟨hr1380, xr1380_0, xr1380_1⟩ := hr1380
                      have : (6 : Int32).toInt = 6 := (by decide)
                      have xr1380_0 : (((r1380 : Int32).toInt = 1 ∧ WdG (fun j => sg ((fa 12 32) j).toInt) (n1372 : Int32).toInt ((n1372 : Int32).toInt + (n1373 : Int32).toInt) (6 : Int32).toInt (lt6 (115 : Int32) (116 : Int32) (114 : Int32) (105 : Int32) (107 : Int32) (101 : Int32))) ∨ ((r1380 : Int32).toInt = 0 ∧ ¬ WdG (fun j => sg ((fa 12 32) j).toInt) (n1372 : Int32).toInt ((n1372 : Int32).toInt + (n1373 : Int32).toInt) (6 : Int32).toInt (lt6 (115 : Int32) (116 : Int32) (114 : Int32) (105 : Int32) (107 : Int32) (101 : Int32)))) := xr1380_0
                      have xr1380_1 : ((r1380 : Int32).toInt = 0 ∨ (n1373 : Int32).toInt = (6 : Int32).toInt) := xr1380_1
                      refine lv_if_eq (tgt := 147) hx hb dX12_rule_140 (by decide) (fun c1381 => ?_) (fun c1381 => ?_)
                      · have fc1381 := z_eq (rfl : (r1380).toInt = _) (by decide : (0 : Int32).toInt = 0) c1381
                        refine lv_iconst (v := (-1)) hx hb dX12_rule_147 (by decide) ?_
                        refine lv_istore_n (lv' := [(3, .int (-1)), (2, .int x1357_2), (0, .ref h), (1, .int a)]) hx hb dX12_rule_148 rfl hl (by decide) rfl (fun ls hl => ?_)
                        refine lv_aload_n hx hb dX12_rule_149 rfl (lv_at hl 2 rfl) ?_
                        refine lv_iload_n hx hb dX12_rule_150 rfl (lv_at hl 0 rfl) ?_
                        refine lv_if_lt (tgt := 158) hx hb dX12_rule_151 (by decide) (fun c1382 => ?_) (fun c1382 => ?_)
                        · skip
                          refine lv_iconst (v := 0) hx hb dX12_rule_158 (by decide) ?_
                          refine lv_iconst (v := 1) hx hb dX12_rule_159 (by decide) ?_
                          refine lv_aload_n hx hb dX12_rule_160 rfl (lv_at hl 2 rfl) ?_
                          refine gM_12_37 hx hb ht hown hK hP m_1176 (v := n1372) rfl dX12_rule_161 ?_
                          have hFc := free_all hD hS hA
                          refine va_calli (va_runV (As := [.int 0, .int 1, .int n1372]) (rest := []) ⟨hx, hb, hml, hown, ht⟩ (c_X12_want_r0 l dC dI H.size h g ca (u2 (u2 (u2 (u2 (u2 iv 12 34 n1371) 12 35 w1357_i_12_35) 12 36 w1357_i_12_36) 12 37 n1372) 12 38 n1373) lv (u2 (u2 (u2 (u2 (u2 (u2 fa 12 26 w1357_a_12_26) 12 28 w1357_a_12_28) 12 30 w1357_a_12_30) 12 29 w1357_a_12_29) 12 31 w1357_a_12_31) 12 27 w1357_a_12_27) la (IX_a (c := 12) (k := 27) (IX_a (c := 12) (k := 31) (IX_a (c := 12) (k := 29) (IX_a (c := 12) (k := 30) (IX_a (c := 12) (k := 28) (IX_a (c := 12) (k := 26) (IX_i (c := 12) (k := 38) (IX_i (c := 12) (k := 37) (IX_i (c := 12) (k := 36) (IX_i (c := 12) (k := 35) (IX_i (c := 12) (k := 34) hI (show inb (0, 200) n1371 from ⟨by omega, by omega⟩)) (show inb (0, 5) w1357_i_12_35 from ⟨by omega, by omega⟩)) (full_i _)) (show inb (0, 200) n1372 from ⟨by omega, by omega⟩)) (show inb (0, 200) n1373 from ⟨by omega, by omega⟩)) hw1357_a_12_26) hw1357_a_12_28) hw1357_a_12_30) hw1357_a_12_29) hw1357_a_12_31) hw1357_a_12_27) 1 n1372 ⟨by decide, by decide⟩) (kV 3 ht m_1472 m_1474 m_50 m_89 m_1475 rfl rfl hd_X12_want_v ⟨Nat.le_of_ble_eq_true rfl, Nat.le_of_ble_eq_true rfl⟩) (vW hP hK hD (rM_12 hK hP)) rfl rfl hl.1 rfl (lv_room (Nat.le_of_ble_eq_true rfl)) dX12_rule_164 ⟨Nat.le_of_ble_eq_true rfl, Nat.le_of_ble_eq_true rfl⟩) hS (fun q _ h => hFc q h) hFc (fun r1383 u t H1 locs ht9 hvm hr1383 hB hz1 hk1 hS => ?_)
                          obtain ⟨n1384, n1385, hn1384, xr1383_0, xr1383_1, hr1383, rfl⟩ := hr1383
                          have hn1384 : 0 ≤ n1384.toInt ∧ n1384.toInt ≤ 5 := hn1384
                          obtain ⟨hP, hD⟩ := hB
                          rw [ht9] at hP
                          generalize H1 = H at hP hS ⊢
                          have hP : va_P (dC, dI) classes (WM h g ca (u2 (u2 (u2 (u2 (u2 iv 12 34 n1371) 12 35 n1384) 12 36 n1385) 12 37 n1372) 12 38 n1373) lv (u2 (u2 (u2 (u2 (u2 (u2 fa 12 26 w1357_a_12_26) 12 28 w1357_a_12_28) 12 30 w1357_a_12_30) 12 29 w1357_a_12_29) 12 31 w1357_a_12_31) 12 27 w1357_a_12_27) la) H := hP
                          have hD : va_D A (WM h g ca (u2 (u2 (u2 (u2 (u2 iv 12 34 n1371) 12 35 n1384) 12 36 n1385) 12 37 n1372) 12 38 n1373) lv (u2 (u2 (u2 (u2 (u2 (u2 fa 12 26 w1357_a_12_26) 12 28 w1357_a_12_28) 12 30 w1357_a_12_30) 12 29 w1357_a_12_29) 12 31 w1357_a_12_31) 12 27 w1357_a_12_27) la) := (show va_D _ (WM h g ca (u2 (u2 (u2 (u2 (u2 iv 12 34 n1371) 12 35 n1384) 12 36 n1385) 12 37 n1372) 12 38 n1373) lv (u2 (u2 (u2 (u2 (u2 (u2 fa 12 26 w1357_a_12_26) 12 28 w1357_a_12_28) 12 30 w1357_a_12_30) 12 29 w1357_a_12_29) 12 31 w1357_a_12_31) 12 27 w1357_a_12_27) la) from hD).weaken (fun _ _ _ h => hFc _ h)
                          have xr1383_0 : 1 ≤ (n1384 : Int32).toInt := xr1383_0
                          have : (1 : Int32).toInt = 1 := (by decide)
                          have xr1383_1 : (((w1357_i_12_35 : Int32).toInt = 0 ∧ (n1384 : Int32).toInt = (1 : Int32).toInt ∧ (n1385 : Int32).toInt = (n1372 : Int32).toInt) ∨ ((w1357_i_12_35 : Int32).toInt ≠ 0 ∧ (n1384 : Int32).toInt = (w1357_i_12_35 : Int32).toInt ∧ (n1385 : Int32).toInt = (w1357_i_12_36 : Int32).toInt)) := xr1383_1
                          obtain rfl : 0 = r1383 := hr1383.symm
                          refine lv_if_eq (tgt := 210) hx hb dX12_rule_167 (by decide) (fun c1386 => ?_) (fun c1386 => ?_)
                          · skip
                            refine lv_goto (tgt := 39) hx hb dX12_rule_210 (by decide) ?_
                            exact ih1358 x1357_2 n1371 n1384 n1385 n1372 n1373 w1357_a_12_26 w1357_a_12_28 w1357_a_12_30 w1357_a_12_29 w1357_a_12_31 w1357_a_12_27 ⟨by omega, by omega⟩ ⟨by omega, by omega⟩ ⟨by omega, by omega⟩ ⟨by omega, by omega⟩ ⟨by omega, by omega⟩ hw1357_a_12_26 hw1357_a_12_28 hw1357_a_12_30 hw1357_a_12_29 hw1357_a_12_31 hw1357_a_12_27 (show ∀ j : Nat, (j : Int) < 12 * ((iv 12 23) : Int32).toInt → w1357_a_12_26 j = (fa 12 26) j ∧ w1357_a_12_27 j = (fa 12 27) j ∧ w1357_a_12_28 j = (fa 12 28) j from hq1358_0) (show ((n1384 : Int32).toInt ≠ 0 ∨ ∀ j : Nat, 12 * ((iv 12 23) : Int32).toInt ≤ (j : Int) → (j : Int) < 12 * ((iv 12 23) : Int32).toInt + (x1357_2 : Int32).toInt → gd3 (w1357_a_12_26 j) (w1357_a_12_27 j) (w1357_a_12_28 j)) from Or.inl (by omega)) (show (((n1384 : Int32).toInt = 0 ∧ (n1385 : Int32).toInt = -1 ∧ Pf (fun j => sg ((fa 12 32) j).toInt) ((iv 12 33) : Int32).toInt ((iv 12 23) : Int32).toInt (fun i => if (w1357_a_12_26 (12 * (((iv 12 23) : Int32).toInt).toNat + i)).toInt = 0 then (w1357_a_12_27 (12 * (((iv 12 23) : Int32).toInt).toNat + i)).toInt else (w1357_a_12_26 (12 * (((iv 12 23) : Int32).toInt).toNat + i)).toInt + 4) (fun i => (w1357_a_12_28 (12 * (((iv 12 23) : Int32).toInt).toNat + i)).toInt) (fun i => (w1357_a_12_29 (12 * (((iv 12 23) : Int32).toInt).toNat + i)).toInt) (fun i j => if (j : Int) < (w1357_a_12_30 (12 * (((iv 12 23) : Int32).toInt).toNat + i)).toInt then (w1357_a_12_31 (8 * (12 * (((iv 12 23) : Int32).toInt).toNat + i) + j)).toInt else 0) ((x1357_2 : Int32).toInt).toNat (n1371 : Int32).toInt) ∨ ((n1384 : Int32).toInt ≠ 0 ∧ ∃ c : Nat, Out (fun j => sg ((fa 12 32) j).toInt) ((iv 12 33) : Int32).toInt ((iv 12 23) : Int32).toInt (n1384 : Int32).toInt (n1385 : Int32).toInt c (fun i => if (w1357_a_12_26 (12 * (((iv 12 23) : Int32).toInt).toNat + i)).toInt = 0 then (w1357_a_12_27 (12 * (((iv 12 23) : Int32).toInt).toNat + i)).toInt else (w1357_a_12_26 (12 * (((iv 12 23) : Int32).toInt).toNat + i)).toInt + 4) (fun i => (w1357_a_12_28 (12 * (((iv 12 23) : Int32).toInt).toNat + i)).toInt) (fun i => (w1357_a_12_29 (12 * (((iv 12 23) : Int32).toInt).toNat + i)).toInt) (fun i j => if (j : Int) < (w1357_a_12_30 (12 * (((iv 12 23) : Int32).toInt).toNat + i)).toInt then (w1357_a_12_31 (8 * (12 * (((iv 12 23) : Int32).toInt).toNat + i) + j)).toInt else 0))) from (by
                                  rcases hq1358_2 with ⟨yi1, yi2, yi3⟩ | ⟨yi1, -⟩
                                  · have yse := Sk_un (by omega) (Sk_id xr1362_1) xr1370_2
                                    have ysn : (n1363 : Int32).toInt < (iv 12 33).toInt := by omega
                                    have yrn := xr1370_3
                                    rw [← yse] at yrn
                                    have yg0 := ((cw_let xr1374_0).resolve_left (fun q => by omega)).2
                                    rw [xr1370_1, ← yse] at yg0
                                    have yg1 := ((cw_take xr1376_0).resolve_left (fun q => by omega)).2
                                    rw [xr1370_1, ← yse] at yg1
                                    have yg2 := ((cw_name xr1378_0).resolve_left (fun q => by omega)).2
                                    rw [xr1370_1, ← yse] at yg2
                                    have yg3 := ((cw_strike xr1380_0).resolve_left (fun q => by omega)).2
                                    rw [xr1370_1, ← yse] at yg3
                                    have yk : kwK (fun j => sg (fa 12 32 j).toInt) (n1363 : Int32).toInt (n1371 : Int32).toInt = -1 := by unfold kwK; rw [if_neg yg0, if_neg yg1, if_neg yg2, if_neg yg3]
                                    have yc9 : ((((x1357_2 : Int32).toInt).toNat : Nat) : Int) = (x1357_2 : Int32).toInt := Int.toNat_of_nonneg (by omega)
                                    exact Or.inr ⟨by omega, _, _, _, yi3, xr1362_1, Or.inr ⟨ysn, by omega, 0, 0, 0, 0, (fun _ => 0), _, yrn, Or.inl ⟨yk, by omega, by omega⟩⟩⟩
                                  · exfalso; omega)) (show 0 ≤ (x1357_2 : Int32).toInt from by omega) (show ∀ j : Nat, (j : Int) < 12 * ((iv 12 23) : Int32).toInt → w1357_a_12_29 j = (fa 12 29) j ∧ w1357_a_12_30 j = (fa 12 30) j from hq1358_4) (show ∀ j : Nat, (j : Int) < 96 * ((iv 12 23) : Int32).toInt → w1357_a_12_31 j = (fa 12 31) j from hq1358_5) (show ((n1384 : Int32).toInt ≠ 0 ∨ ∀ j : Nat, 12 * ((iv 12 23) : Int32).toInt ≤ (j : Int) → (j : Int) < 12 * ((iv 12 23) : Int32).toInt + (x1357_2 : Int32).toInt → gk (w1357_a_12_26 j) (w1357_a_12_27 j)) from Or.inl (by omega)) (show ((n1384 : Int32).toInt ≠ 0 ∨ ∀ j : Nat, 12 * ((iv 12 23) : Int32).toInt ≤ (j : Int) → (j : Int) < 12 * ((iv 12 23) : Int32).toInt + (x1357_2 : Int32).toInt → (w1357_a_12_26 j).toInt = 2 → ∀ q : Nat, (q : Int) < (w1357_a_12_30 j).toInt → 97 ≤ (w1357_a_12_31 (8 * j + q)).toInt) from Or.inl (by omega)) (by omega) _ _ ls hP hD hS (lv_sub hl [1, 2, 3] rfl)
                          · exact absurd rfl c1386
                        · exact absurd c1382 (by decide)
                      · have fc1381 := z_ne (rfl : (r1380).toInt = _) (by decide : (0 : Int32).toInt = 0) c1381
                        refine lv_iconst (v := 3) hx hb dX12_rule_143 (by decide) ?_
                        refine lv_goto (tgt := 148) hx hb dX12_rule_144 (by decide) ?_
                        refine lv_istore_n (lv' := [(3, .int 3), (2, .int x1357_2), (0, .ref h), (1, .int a)]) hx hb dX12_rule_148 rfl hl (by decide) rfl (fun ls hl => ?_)
                        refine lv_aload_n hx hb dX12_rule_149 rfl (lv_at hl 2 rfl) ?_
                        refine lv_iload_n hx hb dX12_rule_150 rfl (lv_at hl 0 rfl) ?_
                        refine lv_if_lt (tgt := 158) hx hb dX12_rule_151 (by decide) (fun c1387 => ?_) (fun c1387 => ?_)
                        · exact absurd c1387 (by decide)
                        · skip
                          refine lv_iconst (v := 1) hx hb dX12_rule_154 (by decide) ?_
                          refine lv_goto (tgt := 159) hx hb dX12_rule_155 (by decide) ?_
                          refine lv_iconst (v := 1) hx hb dX12_rule_159 (by decide) ?_
                          refine lv_aload_n hx hb dX12_rule_160 rfl (lv_at hl 2 rfl) ?_
                          refine gM_12_37 hx hb ht hown hK hP m_1176 (v := n1372) rfl dX12_rule_161 ?_
                          refine vp_callSi (W.runV (As := [.int 1, .int 1, .int n1372]) (rest := []) ⟨hx, hb, hml, hown, ht⟩ (c_X12_want_1 l dC dI h g ca (u2 (u2 (u2 (u2 (u2 iv 12 34 n1371) 12 35 w1357_i_12_35) 12 36 w1357_i_12_36) 12 37 n1372) 12 38 n1373) lv (u2 (u2 (u2 (u2 (u2 (u2 fa 12 26 w1357_a_12_26) 12 28 w1357_a_12_28) 12 30 w1357_a_12_30) 12 29 w1357_a_12_29) 12 31 w1357_a_12_31) 12 27 w1357_a_12_27) la (IX_a (c := 12) (k := 27) (IX_a (c := 12) (k := 31) (IX_a (c := 12) (k := 29) (IX_a (c := 12) (k := 30) (IX_a (c := 12) (k := 28) (IX_a (c := 12) (k := 26) (IX_i (c := 12) (k := 38) (IX_i (c := 12) (k := 37) (IX_i (c := 12) (k := 36) (IX_i (c := 12) (k := 35) (IX_i (c := 12) (k := 34) hI (show inb (0, 200) n1371 from ⟨by omega, by omega⟩)) (show inb (0, 5) w1357_i_12_35 from ⟨by omega, by omega⟩)) (full_i _)) (show inb (0, 200) n1372 from ⟨by omega, by omega⟩)) (show inb (0, 200) n1373 from ⟨by omega, by omega⟩)) hw1357_a_12_26) hw1357_a_12_28) hw1357_a_12_30) hw1357_a_12_29) hw1357_a_12_31) hw1357_a_12_27) 1 n1372) (kV 3 ht m_1472 m_1474 m_50 m_89 m_1475 rfl rfl hd_X12_want_v ⟨Nat.le_of_ble_eq_true rfl, Nat.le_of_ble_eq_true rfl⟩) (vR hP hK (rM_12 hK hP)) rfl rfl hl.1 rfl (lv_room (Nat.le_of_ble_eq_true rfl)) dX12_rule_164 ⟨Nat.le_of_ble_eq_true rfl, Nat.le_of_ble_eq_true rfl⟩) (fun r1388 hr1388 => ?_)
                          rcases hr1388 with ⟨rfl, fr1388⟩ | ⟨rfl, fr1388⟩
                          · skip
                            have fr1388 : ((w1357_i_12_35 : Int32).toInt = 0) := fr1388
                            refine lv_if_eq (tgt := 210) hx hb dX12_rule_167 (by decide) (fun c1389 => ?_) (fun c1389 => ?_)
                            · exact absurd c1389 (by decide)
                            · skip
                              refine lv_aload_n hx hb dX12_rule_170 rfl (lv_at hl 2 rfl) ?_
                              refine lv_iload_n hx hb dX12_rule_171 rfl (lv_at hl 1 rfl) ?_
                              refine lv_bipush (v := 12) hx hb dX12_rule_172 (by decide) ?_
                              refine lv_icmp_ge (tgt := 181) hx hb dX12_rule_174 (by decide) (fun c1390 => ?_) (fun c1390 => ?_)
                              · have fc1390 := z_le (by decide : (12 : Int32).toInt = 12) (rfl : (x1357_2).toInt = _) c1390
                                refine lv_iconst (v := 0) hx hb dX12_rule_181 (by decide) ?_
                                refine lv_iconst (v := 5) hx hb dX12_rule_182 (by decide) ?_
                                refine lv_aload_n hx hb dX12_rule_183 rfl (lv_at hl 2 rfl) ?_
                                refine gM_12_37 hx hb ht hown hK hP m_1176 (v := n1372) rfl dX12_rule_184 ?_
                                have hFc := free_all hD hS hA
                                refine va_calli (va_runV (As := [.int 0, .int 5, .int n1372]) (rest := []) ⟨hx, hb, hml, hown, ht⟩ (c_X12_want_r0 l dC dI H.size h g ca (u2 (u2 (u2 (u2 (u2 iv 12 34 n1371) 12 35 w1357_i_12_35) 12 36 w1357_i_12_36) 12 37 n1372) 12 38 n1373) lv (u2 (u2 (u2 (u2 (u2 (u2 fa 12 26 w1357_a_12_26) 12 28 w1357_a_12_28) 12 30 w1357_a_12_30) 12 29 w1357_a_12_29) 12 31 w1357_a_12_31) 12 27 w1357_a_12_27) la (IX_a (c := 12) (k := 27) (IX_a (c := 12) (k := 31) (IX_a (c := 12) (k := 29) (IX_a (c := 12) (k := 30) (IX_a (c := 12) (k := 28) (IX_a (c := 12) (k := 26) (IX_i (c := 12) (k := 38) (IX_i (c := 12) (k := 37) (IX_i (c := 12) (k := 36) (IX_i (c := 12) (k := 35) (IX_i (c := 12) (k := 34) hI (show inb (0, 200) n1371 from ⟨by omega, by omega⟩)) (show inb (0, 5) w1357_i_12_35 from ⟨by omega, by omega⟩)) (full_i _)) (show inb (0, 200) n1372 from ⟨by omega, by omega⟩)) (show inb (0, 200) n1373 from ⟨by omega, by omega⟩)) hw1357_a_12_26) hw1357_a_12_28) hw1357_a_12_30) hw1357_a_12_29) hw1357_a_12_31) hw1357_a_12_27) 5 n1372 ⟨by decide, by decide⟩) (kV 3 ht m_1472 m_1474 m_50 m_89 m_1475 rfl rfl hd_X12_want_v ⟨Nat.le_of_ble_eq_true rfl, Nat.le_of_ble_eq_true rfl⟩) (vW hP hK hD (rM_12 hK hP)) rfl rfl hl.1 rfl (lv_room (Nat.le_of_ble_eq_true rfl)) dX12_rule_187 ⟨Nat.le_of_ble_eq_true rfl, Nat.le_of_ble_eq_true rfl⟩) hS (fun q _ h => hFc q h) hFc (fun r1391 u t H1 locs ht9 hvm hr1391 hB hz1 hk1 hS => ?_)
                                obtain ⟨n1392, n1393, hn1392, xr1391_0, xr1391_1, hr1391, rfl⟩ := hr1391
                                have hn1392 : 0 ≤ n1392.toInt ∧ n1392.toInt ≤ 5 := hn1392
                                obtain ⟨hP, hD⟩ := hB
                                rw [ht9] at hP
                                generalize H1 = H at hP hS ⊢
                                have hP : va_P (dC, dI) classes (WM h g ca (u2 (u2 (u2 (u2 (u2 iv 12 34 n1371) 12 35 n1392) 12 36 n1393) 12 37 n1372) 12 38 n1373) lv (u2 (u2 (u2 (u2 (u2 (u2 fa 12 26 w1357_a_12_26) 12 28 w1357_a_12_28) 12 30 w1357_a_12_30) 12 29 w1357_a_12_29) 12 31 w1357_a_12_31) 12 27 w1357_a_12_27) la) H := hP
                                have hD : va_D A (WM h g ca (u2 (u2 (u2 (u2 (u2 iv 12 34 n1371) 12 35 n1392) 12 36 n1393) 12 37 n1372) 12 38 n1373) lv (u2 (u2 (u2 (u2 (u2 (u2 fa 12 26 w1357_a_12_26) 12 28 w1357_a_12_28) 12 30 w1357_a_12_30) 12 29 w1357_a_12_29) 12 31 w1357_a_12_31) 12 27 w1357_a_12_27) la) := (show va_D _ (WM h g ca (u2 (u2 (u2 (u2 (u2 iv 12 34 n1371) 12 35 n1392) 12 36 n1393) 12 37 n1372) 12 38 n1373) lv (u2 (u2 (u2 (u2 (u2 (u2 fa 12 26 w1357_a_12_26) 12 28 w1357_a_12_28) 12 30 w1357_a_12_30) 12 29 w1357_a_12_29) 12 31 w1357_a_12_31) 12 27 w1357_a_12_27) la) from hD).weaken (fun _ _ _ h => hFc _ h)
                                have xr1391_0 : 1 ≤ (n1392 : Int32).toInt := xr1391_0
                                have : (5 : Int32).toInt = 5 := (by decide)
                                have xr1391_1 : (((w1357_i_12_35 : Int32).toInt = 0 ∧ (n1392 : Int32).toInt = (5 : Int32).toInt ∧ (n1393 : Int32).toInt = (n1372 : Int32).toInt) ∨ ((w1357_i_12_35 : Int32).toInt ≠ 0 ∧ (n1392 : Int32).toInt = (w1357_i_12_35 : Int32).toInt ∧ (n1393 : Int32).toInt = (w1357_i_12_36 : Int32).toInt)) := xr1391_1
                                obtain rfl : 0 = r1391 := hr1391.symm
                                refine lv_if_eq (tgt := 210) hx hb dX12_rule_190 (by decide) (fun c1394 => ?_) (fun c1394 => ?_)
                                · skip
                                  refine lv_goto (tgt := 39) hx hb dX12_rule_210 (by decide) ?_
                                  exact ih1358 x1357_2 n1371 n1392 n1393 n1372 n1373 w1357_a_12_26 w1357_a_12_28 w1357_a_12_30 w1357_a_12_29 w1357_a_12_31 w1357_a_12_27 ⟨by omega, by omega⟩ ⟨by omega, by omega⟩ ⟨by omega, by omega⟩ ⟨by omega, by omega⟩ ⟨by omega, by omega⟩ hw1357_a_12_26 hw1357_a_12_28 hw1357_a_12_30 hw1357_a_12_29 hw1357_a_12_31 hw1357_a_12_27 (show ∀ j : Nat, (j : Int) < 12 * ((iv 12 23) : Int32).toInt → w1357_a_12_26 j = (fa 12 26) j ∧ w1357_a_12_27 j = (fa 12 27) j ∧ w1357_a_12_28 j = (fa 12 28) j from hq1358_0) (show ((n1392 : Int32).toInt ≠ 0 ∨ ∀ j : Nat, 12 * ((iv 12 23) : Int32).toInt ≤ (j : Int) → (j : Int) < 12 * ((iv 12 23) : Int32).toInt + (x1357_2 : Int32).toInt → gd3 (w1357_a_12_26 j) (w1357_a_12_27 j) (w1357_a_12_28 j)) from Or.inl (by omega)) (show (((n1392 : Int32).toInt = 0 ∧ (n1393 : Int32).toInt = -1 ∧ Pf (fun j => sg ((fa 12 32) j).toInt) ((iv 12 33) : Int32).toInt ((iv 12 23) : Int32).toInt (fun i => if (w1357_a_12_26 (12 * (((iv 12 23) : Int32).toInt).toNat + i)).toInt = 0 then (w1357_a_12_27 (12 * (((iv 12 23) : Int32).toInt).toNat + i)).toInt else (w1357_a_12_26 (12 * (((iv 12 23) : Int32).toInt).toNat + i)).toInt + 4) (fun i => (w1357_a_12_28 (12 * (((iv 12 23) : Int32).toInt).toNat + i)).toInt) (fun i => (w1357_a_12_29 (12 * (((iv 12 23) : Int32).toInt).toNat + i)).toInt) (fun i j => if (j : Int) < (w1357_a_12_30 (12 * (((iv 12 23) : Int32).toInt).toNat + i)).toInt then (w1357_a_12_31 (8 * (12 * (((iv 12 23) : Int32).toInt).toNat + i) + j)).toInt else 0) ((x1357_2 : Int32).toInt).toNat (n1371 : Int32).toInt) ∨ ((n1392 : Int32).toInt ≠ 0 ∧ ∃ c : Nat, Out (fun j => sg ((fa 12 32) j).toInt) ((iv 12 33) : Int32).toInt ((iv 12 23) : Int32).toInt (n1392 : Int32).toInt (n1393 : Int32).toInt c (fun i => if (w1357_a_12_26 (12 * (((iv 12 23) : Int32).toInt).toNat + i)).toInt = 0 then (w1357_a_12_27 (12 * (((iv 12 23) : Int32).toInt).toNat + i)).toInt else (w1357_a_12_26 (12 * (((iv 12 23) : Int32).toInt).toNat + i)).toInt + 4) (fun i => (w1357_a_12_28 (12 * (((iv 12 23) : Int32).toInt).toNat + i)).toInt) (fun i => (w1357_a_12_29 (12 * (((iv 12 23) : Int32).toInt).toNat + i)).toInt) (fun i j => if (j : Int) < (w1357_a_12_30 (12 * (((iv 12 23) : Int32).toInt).toNat + i)).toInt then (w1357_a_12_31 (8 * (12 * (((iv 12 23) : Int32).toInt).toNat + i) + j)).toInt else 0))) from (by
                                        rcases hq1358_2 with ⟨yi1, yi2, yi3⟩ | ⟨yi1, -⟩
                                        · have yse := Sk_un (by omega) (Sk_id xr1362_1) xr1370_2
                                          have ysn : (n1363 : Int32).toInt < (iv 12 33).toInt := by omega
                                          have yrn := xr1370_3
                                          rw [← yse] at yrn
                                          have yg0 := ((cw_let xr1374_0).resolve_left (fun q => by omega)).2
                                          rw [xr1370_1, ← yse] at yg0
                                          have yg1 := ((cw_take xr1376_0).resolve_left (fun q => by omega)).2
                                          rw [xr1370_1, ← yse] at yg1
                                          have yg2 := ((cw_name xr1378_0).resolve_left (fun q => by omega)).2
                                          rw [xr1370_1, ← yse] at yg2
                                          have yg3 := ((cw_strike xr1380_0).resolve_right (fun q => by omega)).2
                                          rw [xr1370_1, ← yse] at yg3
                                          have yk : kwK (fun j => sg (fa 12 32 j).toInt) (n1363 : Int32).toInt (n1371 : Int32).toInt = 3 := by unfold kwK; rw [if_neg yg0, if_neg yg1, if_neg yg2, if_pos yg3]
                                          have yc9 : ((((x1357_2 : Int32).toInt).toNat : Nat) : Int) = (x1357_2 : Int32).toInt := Int.toNat_of_nonneg (by omega)
                                          exact Or.inr ⟨by omega, _, _, _, yi3, xr1362_1, Or.inr ⟨ysn, by omega, 0, 0, 0, 0, (fun _ => 0), _, yrn, Or.inr (Or.inl ⟨by omega, by omega, by omega, by omega⟩)⟩⟩
                                        · exfalso; omega)) (show 0 ≤ (x1357_2 : Int32).toInt from by omega) (show ∀ j : Nat, (j : Int) < 12 * ((iv 12 23) : Int32).toInt → w1357_a_12_29 j = (fa 12 29) j ∧ w1357_a_12_30 j = (fa 12 30) j from hq1358_4) (show ∀ j : Nat, (j : Int) < 96 * ((iv 12 23) : Int32).toInt → w1357_a_12_31 j = (fa 12 31) j from hq1358_5) (show ((n1392 : Int32).toInt ≠ 0 ∨ ∀ j : Nat, 12 * ((iv 12 23) : Int32).toInt ≤ (j : Int) → (j : Int) < 12 * ((iv 12 23) : Int32).toInt + (x1357_2 : Int32).toInt → gk (w1357_a_12_26 j) (w1357_a_12_27 j)) from Or.inl (by omega)) (show ((n1392 : Int32).toInt ≠ 0 ∨ ∀ j : Nat, 12 * ((iv 12 23) : Int32).toInt ≤ (j : Int) → (j : Int) < 12 * ((iv 12 23) : Int32).toInt + (x1357_2 : Int32).toInt → (w1357_a_12_26 j).toInt = 2 → ∀ q : Nat, (q : Int) < (w1357_a_12_30 j).toInt → 97 ≤ (w1357_a_12_31 (8 * j + q)).toInt) from Or.inl (by omega)) (by omega) _ _ ls hP hD hS (lv_sub hl [1, 2, 3] rfl)
                                · exact absurd rfl c1394
                              · have fc1390 := z_nle (by decide : (12 : Int32).toInt = 12) (rfl : (x1357_2).toInt = _) c1390
                                refine lv_iconst (v := 1) hx hb dX12_rule_177 (by decide) ?_
                                refine lv_goto (tgt := 182) hx hb dX12_rule_178 (by decide) ?_
                                refine lv_iconst (v := 5) hx hb dX12_rule_182 (by decide) ?_
                                refine lv_aload_n hx hb dX12_rule_183 rfl (lv_at hl 2 rfl) ?_
                                refine gM_12_37 hx hb ht hown hK hP m_1176 (v := n1372) rfl dX12_rule_184 ?_
                                refine vp_callSi (W.runV (As := [.int 1, .int 5, .int n1372]) (rest := []) ⟨hx, hb, hml, hown, ht⟩ (c_X12_want_1 l dC dI h g ca (u2 (u2 (u2 (u2 (u2 iv 12 34 n1371) 12 35 w1357_i_12_35) 12 36 w1357_i_12_36) 12 37 n1372) 12 38 n1373) lv (u2 (u2 (u2 (u2 (u2 (u2 fa 12 26 w1357_a_12_26) 12 28 w1357_a_12_28) 12 30 w1357_a_12_30) 12 29 w1357_a_12_29) 12 31 w1357_a_12_31) 12 27 w1357_a_12_27) la (IX_a (c := 12) (k := 27) (IX_a (c := 12) (k := 31) (IX_a (c := 12) (k := 29) (IX_a (c := 12) (k := 30) (IX_a (c := 12) (k := 28) (IX_a (c := 12) (k := 26) (IX_i (c := 12) (k := 38) (IX_i (c := 12) (k := 37) (IX_i (c := 12) (k := 36) (IX_i (c := 12) (k := 35) (IX_i (c := 12) (k := 34) hI (show inb (0, 200) n1371 from ⟨by omega, by omega⟩)) (show inb (0, 5) w1357_i_12_35 from ⟨by omega, by omega⟩)) (full_i _)) (show inb (0, 200) n1372 from ⟨by omega, by omega⟩)) (show inb (0, 200) n1373 from ⟨by omega, by omega⟩)) hw1357_a_12_26) hw1357_a_12_28) hw1357_a_12_30) hw1357_a_12_29) hw1357_a_12_31) hw1357_a_12_27) 5 n1372) (kV 3 ht m_1472 m_1474 m_50 m_89 m_1475 rfl rfl hd_X12_want_v ⟨Nat.le_of_ble_eq_true rfl, Nat.le_of_ble_eq_true rfl⟩) (vR hP hK (rM_12 hK hP)) rfl rfl hl.1 rfl (lv_room (Nat.le_of_ble_eq_true rfl)) dX12_rule_187 ⟨Nat.le_of_ble_eq_true rfl, Nat.le_of_ble_eq_true rfl⟩) (fun r1395 hr1395 => ?_)
                                rcases hr1395 with ⟨rfl, fr1395⟩ | ⟨rfl, fr1395⟩
                                · skip
                                  have fr1395 : ((w1357_i_12_35 : Int32).toInt = 0) := fr1395
                                  refine lv_if_eq (tgt := 210) hx hb dX12_rule_190 (by decide) (fun c1396 => ?_) (fun c1396 => ?_)
                                  · exact absurd c1396 (by decide)
                                  · skip
                                    refine lv_aload_n hx hb dX12_rule_193 rfl (lv_at hl 2 rfl) ?_
                                    refine lv_iload_n hx hb dX12_rule_194 rfl (lv_at hl 0 rfl) ?_
                                    refine lv_bipush (v := 12) hx hb dX12_rule_195 (by decide) ?_
                                    refine lv_aload_n hx hb dX12_rule_197 rfl (lv_at hl 2 rfl) ?_
                                    refine gM_12_23 hx hb ht hown hK hP m_1162 (v := (iv 12 23)) rfl dX12_rule_198 ?_
                                    refine lv_imul hx hb dX12_rule_201 ?_
                                    refine lv_topi (fun v1397 ev1397 => ?_)
                                    have tv1397 := z_mul ev1397 (by decide : (12 : Int32).toInt = 12) (rfl : ((iv 12 23)).toInt = _) (by omega) (by omega)
                                    refine lv_iload_n hx hb dX12_rule_202 rfl (lv_at hl 1 rfl) ?_
                                    refine lv_iadd hx hb dX12_rule_203 ?_
                                    refine lv_topi (fun v1398 ev1398 => ?_)
                                    have tv1398 := z_add ev1398 (rfl : (v1397).toInt = _) (rfl : (x1357_2).toInt = _) (by omega) (by omega)
                                    have hFc := free_all hD hS hA
                                    refine va_callv (va_runV (As := [.int 3, .int v1398]) (rest := []) ⟨hx, hb, hml, hown, ht⟩ (c_X12_readClause_r3 l dC dI H.size h g ca (u2 (u2 (u2 (u2 (u2 iv 12 34 n1371) 12 35 w1357_i_12_35) 12 36 w1357_i_12_36) 12 37 n1372) 12 38 n1373) lv (u2 (u2 (u2 (u2 (u2 (u2 fa 12 26 w1357_a_12_26) 12 28 w1357_a_12_28) 12 30 w1357_a_12_30) 12 29 w1357_a_12_29) 12 31 w1357_a_12_31) 12 27 w1357_a_12_27) la (IX_a (c := 12) (k := 27) (IX_a (c := 12) (k := 31) (IX_a (c := 12) (k := 29) (IX_a (c := 12) (k := 30) (IX_a (c := 12) (k := 28) (IX_a (c := 12) (k := 26) (IX_i (c := 12) (k := 38) (IX_i (c := 12) (k := 37) (IX_i (c := 12) (k := 36) (IX_i (c := 12) (k := 35) (IX_i (c := 12) (k := 34) hI (show inb (0, 200) n1371 from ⟨by omega, by omega⟩)) (show inb (0, 5) w1357_i_12_35 from ⟨by omega, by omega⟩)) (full_i _)) (show inb (0, 200) n1372 from ⟨by omega, by omega⟩)) (show inb (0, 200) n1373 from ⟨by omega, by omega⟩)) hw1357_a_12_26) hw1357_a_12_28) hw1357_a_12_30) hw1357_a_12_29) hw1357_a_12_31) hw1357_a_12_27) v1398 (show 0 ≤ (w1357_i_12_35 : Int32).toInt ∧ (w1357_i_12_35 : Int32).toInt ≤ 0 from ⟨by omega, by omega⟩) ⟨by omega, by omega⟩ hJT) (kV 2 ht m_1476 m_1478 m_51 m_89 m_1479 rfl rfl hd_X12_readClause_v ⟨Nat.le_of_ble_eq_true rfl, Nat.le_of_ble_eq_true rfl⟩) (vW hP hK hD (rM_12 hK hP)) rfl rfl hl.1 rfl (lv_room (Nat.le_of_ble_eq_true rfl)) dX12_rule_204 ⟨Nat.le_of_ble_eq_true rfl, Nat.le_of_ble_eq_true rfl⟩) hS (fun q _ h => hFc q h) hFc (fun u t H1 locs ht9 hvm hr1399 hB hz1 hk1 hS => ?_)
                                    obtain ⟨n1400, n1401, n1402, n1403, n1404, n1405, n1406, hn1402, hn1403, hn1404, hn1406, xr1399_0, xr1399_1, xr1399_2, xr1399_3, xr1399_4, xr1399_5, xr1399_6, rfl⟩ := hr1399
                                    have hn1400 : ∀ j, inb (bA 12 26 j) (n1400 j) := fun j => full_i _
                                    have hn1401 : ∀ j, inb (bA 12 28 j) (n1401 j) := fun j => full_i _
                                    have hn1403 : 0 ≤ n1403.toInt ∧ n1403.toInt ≤ 200 := hn1403
                                    have hn1404 : 0 ≤ n1404.toInt ∧ n1404.toInt ≤ 5 := hn1404
                                    have hn1406 : 0 ≤ n1406.toInt ∧ n1406.toInt ≤ 200 := hn1406
                                    obtain ⟨hP, hD⟩ := hB
                                    rw [ht9] at hP
                                    generalize H1 = H at hP hS ⊢
                                    have hP : va_P (dC, dI) classes (WM h g ca (u2 (u2 (u2 (u2 (u2 iv 12 34 n1403) 12 35 n1404) 12 36 n1405) 12 37 n1406) 12 38 n1373) lv (u2 (u2 (u2 (u2 (u2 (u2 fa 12 26 n1400) 12 28 n1401) 12 30 n1402) 12 29 w1357_a_12_29) 12 31 w1357_a_12_31) 12 27 w1357_a_12_27) la) H := hP
                                    have hD : va_D A (WM h g ca (u2 (u2 (u2 (u2 (u2 iv 12 34 n1403) 12 35 n1404) 12 36 n1405) 12 37 n1406) 12 38 n1373) lv (u2 (u2 (u2 (u2 (u2 (u2 fa 12 26 n1400) 12 28 n1401) 12 30 n1402) 12 29 w1357_a_12_29) 12 31 w1357_a_12_31) 12 27 w1357_a_12_27) la) := (show va_D _ (WM h g ca (u2 (u2 (u2 (u2 (u2 iv 12 34 n1403) 12 35 n1404) 12 36 n1405) 12 37 n1406) 12 38 n1373) lv (u2 (u2 (u2 (u2 (u2 (u2 fa 12 26 n1400) 12 28 n1401) 12 30 n1402) 12 29 w1357_a_12_29) 12 31 w1357_a_12_31) 12 27 w1357_a_12_27) la) from hD).weaken (fun _ _ _ h => hFc _ h)
                                    have xr1399_0 : (n1371 : Int32).toInt ≤ (n1403 : Int32).toInt := xr1399_0
                                    have xr1399_1 : ∀ j : Nat, j ≠ (v1398 : Int32).toNatClampNeg → n1400 j = w1357_a_12_26 j ∧ w1357_a_12_27 j = w1357_a_12_27 j ∧ n1401 j = w1357_a_12_28 j := xr1399_1
                                    have xr1399_2 : ((n1404 : Int32).toInt ≠ 0 ∨ gd3 (n1400 (v1398 : Int32).toNatClampNeg) (w1357_a_12_27 (v1398 : Int32).toNatClampNeg) (n1401 (v1398 : Int32).toNatClampNeg)) := xr1399_2
                                    have xr1399_3 : ∀ j : Nat, j ≠ (v1398 : Int32).toNatClampNeg → w1357_a_12_29 j = w1357_a_12_29 j ∧ n1402 j = w1357_a_12_30 j := xr1399_3
                                    have xr1399_4 : ∀ j : Nat, (j : Int) < 8 * (v1398 : Int32).toInt → w1357_a_12_31 j = w1357_a_12_31 j := xr1399_4
                                    have xr1399_5 : n1400 ((v1398 : Int32).toInt).toNat = 3 := xr1399_5
                                    have xr1399_6 : (((n1404 : Int32).toInt ≠ 0 ∧ ∃ b kd v1 : Int, StrR (fun j => sg ((fa 12 32) j).toInt) ((iv 12 33) : Int32).toInt ((iv 12 23) : Int32).toInt (n1371 : Int32).toInt (n1404 : Int32).toInt (n1405 : Int32).toInt b kd v1) ∨ ((n1404 : Int32).toInt = 0 ∧ (n1405 : Int32).toInt = (w1357_i_12_36 : Int32).toInt ∧ StrR (fun j => sg ((fa 12 32) j).toInt) ((iv 12 33) : Int32).toInt ((iv 12 23) : Int32).toInt (n1371 : Int32).toInt 0 0 (n1403 : Int32).toInt 7 (n1401 ((v1398 : Int32).toInt).toNat).toInt)) := xr1399_6
                                    obtain ⟨v1407, ev1407⟩ : ∃ y : Int32, y = x1357_2 + 1 := ⟨_, rfl⟩
                                    have tv1407 := z_add ev1407 rfl (by decide : (1 : Int32).toInt = 1) (by omega) (by omega)
                                    refine lv_iinc (v := v1407) (lv' := [(2, .int v1407), (3, .int 3), (0, .ref h), (1, .int a)]) hx hb dX12_rule_207 hl (k := 1) rfl (by rw [ev1407]; rfl) (by decide) rfl (fun ls hl => ?_)
                                    refine lv_goto (tgt := 39) hx hb dX12_rule_210 (by decide) ?_
                                    exact ih1358 v1407 n1403 n1404 n1405 n1406 n1373 n1400 n1401 n1402 w1357_a_12_29 w1357_a_12_31 w1357_a_12_27 ⟨by omega, by omega⟩ ⟨by omega, by omega⟩ ⟨by omega, by omega⟩ ⟨by omega, by omega⟩ ⟨by omega, by omega⟩ hn1400 hn1401 hn1402 hw1357_a_12_29 hw1357_a_12_31 hw1357_a_12_27 (show ∀ j : Nat, (j : Int) < 12 * ((iv 12 23) : Int32).toInt → n1400 j = (fa 12 26) j ∧ w1357_a_12_27 j = (fa 12 27) j ∧ n1401 j = (fa 12 28) j from (fun j h => have hj : j ≠ (v1398 : Int32).toNatClampNeg := (show j ≠ (v1398 : Int32).toInt.toNat from by omega); ⟨(xr1399_1 j hj).1.trans (hq1358_0 j h).1, (xr1399_1 j hj).2.1.trans (hq1358_0 j h).2.1, (xr1399_1 j hj).2.2.trans (hq1358_0 j h).2.2⟩)) (show ((n1404 : Int32).toInt ≠ 0 ∨ ∀ j : Nat, 12 * ((iv 12 23) : Int32).toInt ≤ (j : Int) → (j : Int) < 12 * ((iv 12 23) : Int32).toInt + (v1407 : Int32).toInt → gd3 (n1400 j) (w1357_a_12_27 j) (n1401 j)) from (by
                                          by_cases h0 : (n1404 : Int32).toInt = 0
                                          · refine Or.inr (fun j h1 h2 => ?_)
                                            by_cases hj : j = (v1398 : Int32).toNatClampNeg
                                            · rw [hj]; exact xr1399_2.resolve_left (by omega)
                                            · have q := xr1399_1 j hj
                                              rw [q.1, q.2.1, q.2.2]
                                              refine (hq1358_1.resolve_left (by omega)) j h1 ?_
                                              have hj2 : j ≠ (v1398 : Int32).toInt.toNat := hj
                                              omega
                                          · exact Or.inl h0)) (show (((n1404 : Int32).toInt = 0 ∧ (n1405 : Int32).toInt = -1 ∧ Pf (fun j => sg ((fa 12 32) j).toInt) ((iv 12 33) : Int32).toInt ((iv 12 23) : Int32).toInt (fun i => if (n1400 (12 * (((iv 12 23) : Int32).toInt).toNat + i)).toInt = 0 then (w1357_a_12_27 (12 * (((iv 12 23) : Int32).toInt).toNat + i)).toInt else (n1400 (12 * (((iv 12 23) : Int32).toInt).toNat + i)).toInt + 4) (fun i => (n1401 (12 * (((iv 12 23) : Int32).toInt).toNat + i)).toInt) (fun i => (w1357_a_12_29 (12 * (((iv 12 23) : Int32).toInt).toNat + i)).toInt) (fun i j => if (j : Int) < (n1402 (12 * (((iv 12 23) : Int32).toInt).toNat + i)).toInt then (w1357_a_12_31 (8 * (12 * (((iv 12 23) : Int32).toInt).toNat + i) + j)).toInt else 0) ((v1407 : Int32).toInt).toNat (n1403 : Int32).toInt) ∨ ((n1404 : Int32).toInt ≠ 0 ∧ ∃ c : Nat, Out (fun j => sg ((fa 12 32) j).toInt) ((iv 12 33) : Int32).toInt ((iv 12 23) : Int32).toInt (n1404 : Int32).toInt (n1405 : Int32).toInt c (fun i => if (n1400 (12 * (((iv 12 23) : Int32).toInt).toNat + i)).toInt = 0 then (w1357_a_12_27 (12 * (((iv 12 23) : Int32).toInt).toNat + i)).toInt else (n1400 (12 * (((iv 12 23) : Int32).toInt).toNat + i)).toInt + 4) (fun i => (n1401 (12 * (((iv 12 23) : Int32).toInt).toNat + i)).toInt) (fun i => (w1357_a_12_29 (12 * (((iv 12 23) : Int32).toInt).toNat + i)).toInt) (fun i j => if (j : Int) < (n1402 (12 * (((iv 12 23) : Int32).toInt).toNat + i)).toInt then (w1357_a_12_31 (8 * (12 * (((iv 12 23) : Int32).toInt).toNat + i) + j)).toInt else 0))) from (by
                                          rcases hq1358_2 with ⟨yi1, yi2, yi3⟩ | ⟨yi1, -⟩
                                          · have yse := Sk_un (by omega) (Sk_id xr1362_1) xr1370_2
                                            have ysn : (n1363 : Int32).toInt < (iv 12 33).toInt := by omega
                                            have yrn := xr1370_3
                                            rw [← yse] at yrn
                                            have yg0 := ((cw_let xr1374_0).resolve_left (fun q => by omega)).2
                                            rw [xr1370_1, ← yse] at yg0
                                            have yg1 := ((cw_take xr1376_0).resolve_left (fun q => by omega)).2
                                            rw [xr1370_1, ← yse] at yg1
                                            have yg2 := ((cw_name xr1378_0).resolve_left (fun q => by omega)).2
                                            rw [xr1370_1, ← yse] at yg2
                                            have yg3 := ((cw_strike xr1380_0).resolve_right (fun q => by omega)).2
                                            rw [xr1370_1, ← yse] at yg3
                                            have yk : kwK (fun j => sg (fa 12 32 j).toInt) (n1363 : Int32).toInt (n1371 : Int32).toInt = 3 := by unfold kwK; rw [if_neg yg0, if_neg yg1, if_neg yg2, if_pos yg3]
                                            have yc9 : ((((x1357_2 : Int32).toInt).toNat : Nat) : Int) = (x1357_2 : Int32).toInt := Int.toNat_of_nonneg (by omega)
                                            have yK : ((v1398 : Int32).toInt).toNat = (12 * ((iv 12 23).toInt).toNat + ((x1357_2 : Int32).toInt).toNat) := by omega
                                            have yp9 : Pf (fun j => sg (fa 12 32 j).toInt) (iv 12 33).toInt (iv 12 23).toInt (fun i => if (n1400 (12 * ((iv 12 23).toInt).toNat + i)).toInt = 0 then (w1357_a_12_27 (12 * ((iv 12 23).toInt).toNat + i)).toInt else (n1400 (12 * ((iv 12 23).toInt).toNat + i)).toInt + 4) (fun i => (n1401 (12 * ((iv 12 23).toInt).toNat + i)).toInt) (fun i => (w1357_a_12_29 (12 * ((iv 12 23).toInt).toNat + i)).toInt) (fun i j => if (j : Int) < (n1402 (12 * ((iv 12 23).toInt).toNat + i)).toInt then (w1357_a_12_31 (8 * (12 * ((iv 12 23).toInt).toNat + i) + j)).toInt else 0) ((x1357_2 : Int32).toInt).toNat (w1357_i_12_34 : Int32).toInt := by
                                              refine Pf_cg _ _ (fun i hi => ⟨?_, ?_, ?_, fun j hj => ?_⟩) yi3
                                              · show (if (w1357_a_12_26 (12 * ((iv 12 23).toInt).toNat + i)).toInt = 0 then (w1357_a_12_27 (12 * ((iv 12 23).toInt).toNat + i)).toInt else (w1357_a_12_26 (12 * ((iv 12 23).toInt).toNat + i)).toInt + 4) = (if (n1400 (12 * ((iv 12 23).toInt).toNat + i)).toInt = 0 then (w1357_a_12_27 (12 * ((iv 12 23).toInt).toNat + i)).toInt else (n1400 (12 * ((iv 12 23).toInt).toNat + i)).toInt + 4)
                                                rw [(xr1399_1 (12 * ((iv 12 23).toInt).toNat + i) (show (12 * ((iv 12 23).toInt).toNat + i) ≠ ((v1398 : Int32).toInt).toNat from by omega)).1, (xr1399_1 (12 * ((iv 12 23).toInt).toNat + i) (show (12 * ((iv 12 23).toInt).toNat + i) ≠ ((v1398 : Int32).toInt).toNat from by omega)).2.1]
                                              · exact congrArg Int32.toInt (xr1399_1 (12 * ((iv 12 23).toInt).toNat + i) (show (12 * ((iv 12 23).toInt).toNat + i) ≠ ((v1398 : Int32).toInt).toNat from by omega)).2.2.symm
                                              · exact congrArg Int32.toInt (xr1399_3 (12 * ((iv 12 23).toInt).toNat + i) (show (12 * ((iv 12 23).toInt).toNat + i) ≠ ((v1398 : Int32).toInt).toNat from by omega)).1.symm
                                              · show (if (j : Int) < (w1357_a_12_30 (12 * ((iv 12 23).toInt).toNat + i)).toInt then (w1357_a_12_31 (8 * (12 * ((iv 12 23).toInt).toNat + i) + j)).toInt else 0) = (if (j : Int) < (n1402 (12 * ((iv 12 23).toInt).toNat + i)).toInt then (w1357_a_12_31 (8 * (12 * ((iv 12 23).toInt).toNat + i) + j)).toInt else 0)
                                                rw [(xr1399_3 (12 * ((iv 12 23).toInt).toNat + i) (show (12 * ((iv 12 23).toInt).toNat + i) ≠ ((v1398 : Int32).toInt).toNat from by omega)).2, xr1399_4 (8 * (12 * ((iv 12 23).toInt).toNat + i) + j) (by omega)]
                                            rcases xr1399_6 with ⟨yr1, yb, ykd, yv1, yr2⟩ | ⟨yr1, yr2, yr3⟩
                                            · exact Or.inr ⟨by omega, _, _, _, yp9, xr1362_1, Or.inr ⟨ysn, by omega, yb, ykd, yv1, 0, (fun _ => 0), _, yrn, Or.inr (Or.inr (Or.inr (Or.inr (Or.inr (⟨yk, by omega, yr2⟩)))))⟩⟩
                                            · have yx := xr1399_5
                                              rw [yK] at yr3 yx
                                              have ye : (if (n1400 (12 * ((iv 12 23).toInt).toNat + ((x1357_2 : Int32).toInt).toNat)).toInt = 0 then (w1357_a_12_27 (12 * ((iv 12 23).toInt).toNat + ((x1357_2 : Int32).toInt).toNat)).toInt else (n1400 (12 * ((iv 12 23).toInt).toNat + ((x1357_2 : Int32).toInt).toNat)).toInt + 4) = 7 := by
                                                rw [yx]; exact (if_neg (by decide)).trans (by decide)
                                              refine Or.inl ⟨by omega, by omega, ?_⟩
                                              rw [show ((v1407 : Int32).toInt).toNat = ((x1357_2 : Int32).toInt).toNat + 1 from by omega]
                                              refine Pf_S yp9 xr1362_1 ysn (p := 0) ?_
                                              rw [yc9]
                                              show ClR (fun j => sg (fa 12 32 j).toInt) (iv 12 33).toInt (iv 12 23).toInt (n1363 : Int32).toInt (x1357_2 : Int32).toInt 0 0 (n1403 : Int32).toInt (if (n1400 (12 * ((iv 12 23).toInt).toNat + ((x1357_2 : Int32).toInt).toNat)).toInt = 0 then (w1357_a_12_27 (12 * ((iv 12 23).toInt).toNat + ((x1357_2 : Int32).toInt).toNat)).toInt else (n1400 (12 * ((iv 12 23).toInt).toNat + ((x1357_2 : Int32).toInt).toNat)).toInt + 4) _ _ _
                                              rw [ye]
                                              exact ⟨_, yrn, Or.inr (Or.inr (Or.inr (Or.inr (Or.inr (⟨yk, by omega, yr3⟩)))))⟩
                                          · exfalso; omega)) (show 0 ≤ (v1407 : Int32).toInt from by omega) (show ∀ j : Nat, (j : Int) < 12 * ((iv 12 23) : Int32).toInt → w1357_a_12_29 j = (fa 12 29) j ∧ n1402 j = (fa 12 30) j from (fun j h => have hj : j ≠ (v1398 : Int32).toNatClampNeg := (show j ≠ (v1398 : Int32).toInt.toNat from by omega); ⟨(xr1399_3 j hj).1.trans (hq1358_4 j h).1, (xr1399_3 j hj).2.trans (hq1358_4 j h).2⟩)) (show ∀ j : Nat, (j : Int) < 96 * ((iv 12 23) : Int32).toInt → w1357_a_12_31 j = (fa 12 31) j from (fun j h => (xr1399_4 j (by omega)).trans (hq1358_5 j h))) (show ((n1404 : Int32).toInt ≠ 0 ∨ ∀ j : Nat, 12 * ((iv 12 23) : Int32).toInt ≤ (j : Int) → (j : Int) < 12 * ((iv 12 23) : Int32).toInt + (v1407 : Int32).toInt → gk (n1400 j) (w1357_a_12_27 j)) from (by
                                          by_cases h0 : (n1404 : Int32).toInt = 0
                                          · refine Or.inr (fun j h1 h2 => ?_)
                                            by_cases hj : j = ((v1398 : Int32).toInt).toNat
                                            · have e5 : n1400 ((v1398 : Int32).toInt).toNat = 3 := xr1399_5
                                              rw [hj]; unfold gk; rw [e5]; exact Or.inr ⟨by decide, by decide⟩
                                            · have q := xr1399_1 j hj
                                              rw [q.1, q.2.1]
                                              exact (hq1358_6.resolve_left (by omega)) j h1 (by omega)
                                          · exact Or.inl h0)) (show ((n1404 : Int32).toInt ≠ 0 ∨ ∀ j : Nat, 12 * ((iv 12 23) : Int32).toInt ≤ (j : Int) → (j : Int) < 12 * ((iv 12 23) : Int32).toInt + (v1407 : Int32).toInt → (n1400 j).toInt = 2 → ∀ q : Nat, (q : Int) < (n1402 j).toInt → 97 ≤ (w1357_a_12_31 (8 * j + q)).toInt) from (by
                                          by_cases h0 : (n1404 : Int32).toInt = 0
                                          · refine Or.inr (fun j h1 h2 h3 q hq => ?_)
                                            by_cases hj : j = ((v1398 : Int32).toInt).toNat
                                            · have e5 : n1400 ((v1398 : Int32).toInt).toNat = 3 := xr1399_5
                                              rw [hj] at h3 hq ⊢
                                              exact absurd h3 (by rw [e5]; decide)
                                            · have y := xr1399_1 j hj
                                              have y3 := (xr1399_3 j hj).2
                                              have hb9 : 0 ≤ (n1402 j).toInt ∧ (n1402 j).toInt ≤ 8 := (hn1402 j)
                                              rw [y.1] at h3
                                              rw [xr1399_4 (8 * j + q) (by omega)]
                                              rw [y3] at hq
                                              exact (hq1358_7.resolve_left (by omega)) j h1 (by omega) h3 q hq
                                          · exact Or.inl h0)) (by omega) _ _ ls hP hD hS (lv_sub hl [0, 2, 3] rfl)
                                · skip
                                  have fr1395 : ¬ ((w1357_i_12_35 : Int32).toInt = 0) := fr1395
                                  exfalso; omega
                          · skip
                            have fr1388 : ¬ ((w1357_i_12_35 : Int32).toInt = 0) := fr1388
                            exfalso; omega
                    · have fc1379 := z_ne (rfl : (r1378).toInt = _) (by decide : (0 : Int32).toInt = 0) c1379
                      refine lv_iconst (v := 2) hx hb dX12_rule_118 (by decide) ?_
                      refine lv_goto (tgt := 148) hx hb dX12_rule_119 (by decide) ?_
                      refine lv_istore_n (lv' := [(3, .int 2), (2, .int x1357_2), (0, .ref h), (1, .int a)]) hx hb dX12_rule_148 rfl hl (by decide) rfl (fun ls hl => ?_)
                      refine lv_aload_n hx hb dX12_rule_149 rfl (lv_at hl 2 rfl) ?_
                      refine lv_iload_n hx hb dX12_rule_150 rfl (lv_at hl 0 rfl) ?_
                      refine lv_if_lt (tgt := 158) hx hb dX12_rule_151 (by decide) (fun c1408 => ?_) (fun c1408 => ?_)
                      · exact absurd c1408 (by decide)
                      · skip
                        refine lv_iconst (v := 1) hx hb dX12_rule_154 (by decide) ?_
                        refine lv_goto (tgt := 159) hx hb dX12_rule_155 (by decide) ?_
                        refine lv_iconst (v := 1) hx hb dX12_rule_159 (by decide) ?_
                        refine lv_aload_n hx hb dX12_rule_160 rfl (lv_at hl 2 rfl) ?_
                        refine gM_12_37 hx hb ht hown hK hP m_1176 (v := n1372) rfl dX12_rule_161 ?_
                        refine vp_callSi (W.runV (As := [.int 1, .int 1, .int n1372]) (rest := []) ⟨hx, hb, hml, hown, ht⟩ (c_X12_want_1 l dC dI h g ca (u2 (u2 (u2 (u2 (u2 iv 12 34 n1371) 12 35 w1357_i_12_35) 12 36 w1357_i_12_36) 12 37 n1372) 12 38 n1373) lv (u2 (u2 (u2 (u2 (u2 (u2 fa 12 26 w1357_a_12_26) 12 28 w1357_a_12_28) 12 30 w1357_a_12_30) 12 29 w1357_a_12_29) 12 31 w1357_a_12_31) 12 27 w1357_a_12_27) la (IX_a (c := 12) (k := 27) (IX_a (c := 12) (k := 31) (IX_a (c := 12) (k := 29) (IX_a (c := 12) (k := 30) (IX_a (c := 12) (k := 28) (IX_a (c := 12) (k := 26) (IX_i (c := 12) (k := 38) (IX_i (c := 12) (k := 37) (IX_i (c := 12) (k := 36) (IX_i (c := 12) (k := 35) (IX_i (c := 12) (k := 34) hI (show inb (0, 200) n1371 from ⟨by omega, by omega⟩)) (show inb (0, 5) w1357_i_12_35 from ⟨by omega, by omega⟩)) (full_i _)) (show inb (0, 200) n1372 from ⟨by omega, by omega⟩)) (show inb (0, 200) n1373 from ⟨by omega, by omega⟩)) hw1357_a_12_26) hw1357_a_12_28) hw1357_a_12_30) hw1357_a_12_29) hw1357_a_12_31) hw1357_a_12_27) 1 n1372) (kV 3 ht m_1472 m_1474 m_50 m_89 m_1475 rfl rfl hd_X12_want_v ⟨Nat.le_of_ble_eq_true rfl, Nat.le_of_ble_eq_true rfl⟩) (vR hP hK (rM_12 hK hP)) rfl rfl hl.1 rfl (lv_room (Nat.le_of_ble_eq_true rfl)) dX12_rule_164 ⟨Nat.le_of_ble_eq_true rfl, Nat.le_of_ble_eq_true rfl⟩) (fun r1409 hr1409 => ?_)
                        rcases hr1409 with ⟨rfl, fr1409⟩ | ⟨rfl, fr1409⟩
                        · skip
                          have fr1409 : ((w1357_i_12_35 : Int32).toInt = 0) := fr1409
                          refine lv_if_eq (tgt := 210) hx hb dX12_rule_167 (by decide) (fun c1410 => ?_) (fun c1410 => ?_)
                          · exact absurd c1410 (by decide)
                          · skip
                            refine lv_aload_n hx hb dX12_rule_170 rfl (lv_at hl 2 rfl) ?_
                            refine lv_iload_n hx hb dX12_rule_171 rfl (lv_at hl 1 rfl) ?_
                            refine lv_bipush (v := 12) hx hb dX12_rule_172 (by decide) ?_
                            refine lv_icmp_ge (tgt := 181) hx hb dX12_rule_174 (by decide) (fun c1411 => ?_) (fun c1411 => ?_)
                            · have fc1411 := z_le (by decide : (12 : Int32).toInt = 12) (rfl : (x1357_2).toInt = _) c1411
                              refine lv_iconst (v := 0) hx hb dX12_rule_181 (by decide) ?_
                              refine lv_iconst (v := 5) hx hb dX12_rule_182 (by decide) ?_
                              refine lv_aload_n hx hb dX12_rule_183 rfl (lv_at hl 2 rfl) ?_
                              refine gM_12_37 hx hb ht hown hK hP m_1176 (v := n1372) rfl dX12_rule_184 ?_
                              have hFc := free_all hD hS hA
                              refine va_calli (va_runV (As := [.int 0, .int 5, .int n1372]) (rest := []) ⟨hx, hb, hml, hown, ht⟩ (c_X12_want_r0 l dC dI H.size h g ca (u2 (u2 (u2 (u2 (u2 iv 12 34 n1371) 12 35 w1357_i_12_35) 12 36 w1357_i_12_36) 12 37 n1372) 12 38 n1373) lv (u2 (u2 (u2 (u2 (u2 (u2 fa 12 26 w1357_a_12_26) 12 28 w1357_a_12_28) 12 30 w1357_a_12_30) 12 29 w1357_a_12_29) 12 31 w1357_a_12_31) 12 27 w1357_a_12_27) la (IX_a (c := 12) (k := 27) (IX_a (c := 12) (k := 31) (IX_a (c := 12) (k := 29) (IX_a (c := 12) (k := 30) (IX_a (c := 12) (k := 28) (IX_a (c := 12) (k := 26) (IX_i (c := 12) (k := 38) (IX_i (c := 12) (k := 37) (IX_i (c := 12) (k := 36) (IX_i (c := 12) (k := 35) (IX_i (c := 12) (k := 34) hI (show inb (0, 200) n1371 from ⟨by omega, by omega⟩)) (show inb (0, 5) w1357_i_12_35 from ⟨by omega, by omega⟩)) (full_i _)) (show inb (0, 200) n1372 from ⟨by omega, by omega⟩)) (show inb (0, 200) n1373 from ⟨by omega, by omega⟩)) hw1357_a_12_26) hw1357_a_12_28) hw1357_a_12_30) hw1357_a_12_29) hw1357_a_12_31) hw1357_a_12_27) 5 n1372 ⟨by decide, by decide⟩) (kV 3 ht m_1472 m_1474 m_50 m_89 m_1475 rfl rfl hd_X12_want_v ⟨Nat.le_of_ble_eq_true rfl, Nat.le_of_ble_eq_true rfl⟩) (vW hP hK hD (rM_12 hK hP)) rfl rfl hl.1 rfl (lv_room (Nat.le_of_ble_eq_true rfl)) dX12_rule_187 ⟨Nat.le_of_ble_eq_true rfl, Nat.le_of_ble_eq_true rfl⟩) hS (fun q _ h => hFc q h) hFc (fun r1412 u t H1 locs ht9 hvm hr1412 hB hz1 hk1 hS => ?_)
                              obtain ⟨n1413, n1414, hn1413, xr1412_0, xr1412_1, hr1412, rfl⟩ := hr1412
                              have hn1413 : 0 ≤ n1413.toInt ∧ n1413.toInt ≤ 5 := hn1413
                              obtain ⟨hP, hD⟩ := hB
                              rw [ht9] at hP
                              generalize H1 = H at hP hS ⊢
                              have hP : va_P (dC, dI) classes (WM h g ca (u2 (u2 (u2 (u2 (u2 iv 12 34 n1371) 12 35 n1413) 12 36 n1414) 12 37 n1372) 12 38 n1373) lv (u2 (u2 (u2 (u2 (u2 (u2 fa 12 26 w1357_a_12_26) 12 28 w1357_a_12_28) 12 30 w1357_a_12_30) 12 29 w1357_a_12_29) 12 31 w1357_a_12_31) 12 27 w1357_a_12_27) la) H := hP
                              have hD : va_D A (WM h g ca (u2 (u2 (u2 (u2 (u2 iv 12 34 n1371) 12 35 n1413) 12 36 n1414) 12 37 n1372) 12 38 n1373) lv (u2 (u2 (u2 (u2 (u2 (u2 fa 12 26 w1357_a_12_26) 12 28 w1357_a_12_28) 12 30 w1357_a_12_30) 12 29 w1357_a_12_29) 12 31 w1357_a_12_31) 12 27 w1357_a_12_27) la) := (show va_D _ (WM h g ca (u2 (u2 (u2 (u2 (u2 iv 12 34 n1371) 12 35 n1413) 12 36 n1414) 12 37 n1372) 12 38 n1373) lv (u2 (u2 (u2 (u2 (u2 (u2 fa 12 26 w1357_a_12_26) 12 28 w1357_a_12_28) 12 30 w1357_a_12_30) 12 29 w1357_a_12_29) 12 31 w1357_a_12_31) 12 27 w1357_a_12_27) la) from hD).weaken (fun _ _ _ h => hFc _ h)
                              have xr1412_0 : 1 ≤ (n1413 : Int32).toInt := xr1412_0
                              have : (5 : Int32).toInt = 5 := (by decide)
                              have xr1412_1 : (((w1357_i_12_35 : Int32).toInt = 0 ∧ (n1413 : Int32).toInt = (5 : Int32).toInt ∧ (n1414 : Int32).toInt = (n1372 : Int32).toInt) ∨ ((w1357_i_12_35 : Int32).toInt ≠ 0 ∧ (n1413 : Int32).toInt = (w1357_i_12_35 : Int32).toInt ∧ (n1414 : Int32).toInt = (w1357_i_12_36 : Int32).toInt)) := xr1412_1
                              obtain rfl : 0 = r1412 := hr1412.symm
                              refine lv_if_eq (tgt := 210) hx hb dX12_rule_190 (by decide) (fun c1415 => ?_) (fun c1415 => ?_)
                              · skip
                                refine lv_goto (tgt := 39) hx hb dX12_rule_210 (by decide) ?_
                                exact ih1358 x1357_2 n1371 n1413 n1414 n1372 n1373 w1357_a_12_26 w1357_a_12_28 w1357_a_12_30 w1357_a_12_29 w1357_a_12_31 w1357_a_12_27 ⟨by omega, by omega⟩ ⟨by omega, by omega⟩ ⟨by omega, by omega⟩ ⟨by omega, by omega⟩ ⟨by omega, by omega⟩ hw1357_a_12_26 hw1357_a_12_28 hw1357_a_12_30 hw1357_a_12_29 hw1357_a_12_31 hw1357_a_12_27 (show ∀ j : Nat, (j : Int) < 12 * ((iv 12 23) : Int32).toInt → w1357_a_12_26 j = (fa 12 26) j ∧ w1357_a_12_27 j = (fa 12 27) j ∧ w1357_a_12_28 j = (fa 12 28) j from hq1358_0) (show ((n1413 : Int32).toInt ≠ 0 ∨ ∀ j : Nat, 12 * ((iv 12 23) : Int32).toInt ≤ (j : Int) → (j : Int) < 12 * ((iv 12 23) : Int32).toInt + (x1357_2 : Int32).toInt → gd3 (w1357_a_12_26 j) (w1357_a_12_27 j) (w1357_a_12_28 j)) from Or.inl (by omega)) (show (((n1413 : Int32).toInt = 0 ∧ (n1414 : Int32).toInt = -1 ∧ Pf (fun j => sg ((fa 12 32) j).toInt) ((iv 12 33) : Int32).toInt ((iv 12 23) : Int32).toInt (fun i => if (w1357_a_12_26 (12 * (((iv 12 23) : Int32).toInt).toNat + i)).toInt = 0 then (w1357_a_12_27 (12 * (((iv 12 23) : Int32).toInt).toNat + i)).toInt else (w1357_a_12_26 (12 * (((iv 12 23) : Int32).toInt).toNat + i)).toInt + 4) (fun i => (w1357_a_12_28 (12 * (((iv 12 23) : Int32).toInt).toNat + i)).toInt) (fun i => (w1357_a_12_29 (12 * (((iv 12 23) : Int32).toInt).toNat + i)).toInt) (fun i j => if (j : Int) < (w1357_a_12_30 (12 * (((iv 12 23) : Int32).toInt).toNat + i)).toInt then (w1357_a_12_31 (8 * (12 * (((iv 12 23) : Int32).toInt).toNat + i) + j)).toInt else 0) ((x1357_2 : Int32).toInt).toNat (n1371 : Int32).toInt) ∨ ((n1413 : Int32).toInt ≠ 0 ∧ ∃ c : Nat, Out (fun j => sg ((fa 12 32) j).toInt) ((iv 12 33) : Int32).toInt ((iv 12 23) : Int32).toInt (n1413 : Int32).toInt (n1414 : Int32).toInt c (fun i => if (w1357_a_12_26 (12 * (((iv 12 23) : Int32).toInt).toNat + i)).toInt = 0 then (w1357_a_12_27 (12 * (((iv 12 23) : Int32).toInt).toNat + i)).toInt else (w1357_a_12_26 (12 * (((iv 12 23) : Int32).toInt).toNat + i)).toInt + 4) (fun i => (w1357_a_12_28 (12 * (((iv 12 23) : Int32).toInt).toNat + i)).toInt) (fun i => (w1357_a_12_29 (12 * (((iv 12 23) : Int32).toInt).toNat + i)).toInt) (fun i j => if (j : Int) < (w1357_a_12_30 (12 * (((iv 12 23) : Int32).toInt).toNat + i)).toInt then (w1357_a_12_31 (8 * (12 * (((iv 12 23) : Int32).toInt).toNat + i) + j)).toInt else 0))) from (by
                                      rcases hq1358_2 with ⟨yi1, yi2, yi3⟩ | ⟨yi1, -⟩
                                      · have yse := Sk_un (by omega) (Sk_id xr1362_1) xr1370_2
                                        have ysn : (n1363 : Int32).toInt < (iv 12 33).toInt := by omega
                                        have yrn := xr1370_3
                                        rw [← yse] at yrn
                                        have yg0 := ((cw_let xr1374_0).resolve_left (fun q => by omega)).2
                                        rw [xr1370_1, ← yse] at yg0
                                        have yg1 := ((cw_take xr1376_0).resolve_left (fun q => by omega)).2
                                        rw [xr1370_1, ← yse] at yg1
                                        have yg2 := ((cw_name xr1378_0).resolve_right (fun q => by omega)).2
                                        rw [xr1370_1, ← yse] at yg2
                                        have yk : kwK (fun j => sg (fa 12 32 j).toInt) (n1363 : Int32).toInt (n1371 : Int32).toInt = 2 := by unfold kwK; rw [if_neg yg0, if_neg yg1, if_pos yg2]
                                        have yc9 : ((((x1357_2 : Int32).toInt).toNat : Nat) : Int) = (x1357_2 : Int32).toInt := Int.toNat_of_nonneg (by omega)
                                        exact Or.inr ⟨by omega, _, _, _, yi3, xr1362_1, Or.inr ⟨ysn, by omega, 0, 0, 0, 0, (fun _ => 0), _, yrn, Or.inr (Or.inl ⟨by omega, by omega, by omega, by omega⟩)⟩⟩
                                      · exfalso; omega)) (show 0 ≤ (x1357_2 : Int32).toInt from by omega) (show ∀ j : Nat, (j : Int) < 12 * ((iv 12 23) : Int32).toInt → w1357_a_12_29 j = (fa 12 29) j ∧ w1357_a_12_30 j = (fa 12 30) j from hq1358_4) (show ∀ j : Nat, (j : Int) < 96 * ((iv 12 23) : Int32).toInt → w1357_a_12_31 j = (fa 12 31) j from hq1358_5) (show ((n1413 : Int32).toInt ≠ 0 ∨ ∀ j : Nat, 12 * ((iv 12 23) : Int32).toInt ≤ (j : Int) → (j : Int) < 12 * ((iv 12 23) : Int32).toInt + (x1357_2 : Int32).toInt → gk (w1357_a_12_26 j) (w1357_a_12_27 j)) from Or.inl (by omega)) (show ((n1413 : Int32).toInt ≠ 0 ∨ ∀ j : Nat, 12 * ((iv 12 23) : Int32).toInt ≤ (j : Int) → (j : Int) < 12 * ((iv 12 23) : Int32).toInt + (x1357_2 : Int32).toInt → (w1357_a_12_26 j).toInt = 2 → ∀ q : Nat, (q : Int) < (w1357_a_12_30 j).toInt → 97 ≤ (w1357_a_12_31 (8 * j + q)).toInt) from Or.inl (by omega)) (by omega) _ _ ls hP hD hS (lv_sub hl [1, 2, 3] rfl)
                              · exact absurd rfl c1415
                            · have fc1411 := z_nle (by decide : (12 : Int32).toInt = 12) (rfl : (x1357_2).toInt = _) c1411
                              refine lv_iconst (v := 1) hx hb dX12_rule_177 (by decide) ?_
                              refine lv_goto (tgt := 182) hx hb dX12_rule_178 (by decide) ?_
                              refine lv_iconst (v := 5) hx hb dX12_rule_182 (by decide) ?_
                              refine lv_aload_n hx hb dX12_rule_183 rfl (lv_at hl 2 rfl) ?_
                              refine gM_12_37 hx hb ht hown hK hP m_1176 (v := n1372) rfl dX12_rule_184 ?_
                              refine vp_callSi (W.runV (As := [.int 1, .int 5, .int n1372]) (rest := []) ⟨hx, hb, hml, hown, ht⟩ (c_X12_want_1 l dC dI h g ca (u2 (u2 (u2 (u2 (u2 iv 12 34 n1371) 12 35 w1357_i_12_35) 12 36 w1357_i_12_36) 12 37 n1372) 12 38 n1373) lv (u2 (u2 (u2 (u2 (u2 (u2 fa 12 26 w1357_a_12_26) 12 28 w1357_a_12_28) 12 30 w1357_a_12_30) 12 29 w1357_a_12_29) 12 31 w1357_a_12_31) 12 27 w1357_a_12_27) la (IX_a (c := 12) (k := 27) (IX_a (c := 12) (k := 31) (IX_a (c := 12) (k := 29) (IX_a (c := 12) (k := 30) (IX_a (c := 12) (k := 28) (IX_a (c := 12) (k := 26) (IX_i (c := 12) (k := 38) (IX_i (c := 12) (k := 37) (IX_i (c := 12) (k := 36) (IX_i (c := 12) (k := 35) (IX_i (c := 12) (k := 34) hI (show inb (0, 200) n1371 from ⟨by omega, by omega⟩)) (show inb (0, 5) w1357_i_12_35 from ⟨by omega, by omega⟩)) (full_i _)) (show inb (0, 200) n1372 from ⟨by omega, by omega⟩)) (show inb (0, 200) n1373 from ⟨by omega, by omega⟩)) hw1357_a_12_26) hw1357_a_12_28) hw1357_a_12_30) hw1357_a_12_29) hw1357_a_12_31) hw1357_a_12_27) 5 n1372) (kV 3 ht m_1472 m_1474 m_50 m_89 m_1475 rfl rfl hd_X12_want_v ⟨Nat.le_of_ble_eq_true rfl, Nat.le_of_ble_eq_true rfl⟩) (vR hP hK (rM_12 hK hP)) rfl rfl hl.1 rfl (lv_room (Nat.le_of_ble_eq_true rfl)) dX12_rule_187 ⟨Nat.le_of_ble_eq_true rfl, Nat.le_of_ble_eq_true rfl⟩) (fun r1416 hr1416 => ?_)
                              rcases hr1416 with ⟨rfl, fr1416⟩ | ⟨rfl, fr1416⟩
                              · skip
                                have fr1416 : ((w1357_i_12_35 : Int32).toInt = 0) := fr1416
                                refine lv_if_eq (tgt := 210) hx hb dX12_rule_190 (by decide) (fun c1417 => ?_) (fun c1417 => ?_)
                                · exact absurd c1417 (by decide)
                                · skip
                                  refine lv_aload_n hx hb dX12_rule_193 rfl (lv_at hl 2 rfl) ?_
                                  refine lv_iload_n hx hb dX12_rule_194 rfl (lv_at hl 0 rfl) ?_
                                  refine lv_bipush (v := 12) hx hb dX12_rule_195 (by decide) ?_
                                  refine lv_aload_n hx hb dX12_rule_197 rfl (lv_at hl 2 rfl) ?_
                                  refine gM_12_23 hx hb ht hown hK hP m_1162 (v := (iv 12 23)) rfl dX12_rule_198 ?_
                                  refine lv_imul hx hb dX12_rule_201 ?_
                                  refine lv_topi (fun v1418 ev1418 => ?_)
                                  have tv1418 := z_mul ev1418 (by decide : (12 : Int32).toInt = 12) (rfl : ((iv 12 23)).toInt = _) (by omega) (by omega)
                                  refine lv_iload_n hx hb dX12_rule_202 rfl (lv_at hl 1 rfl) ?_
                                  refine lv_iadd hx hb dX12_rule_203 ?_
                                  refine lv_topi (fun v1419 ev1419 => ?_)
                                  have tv1419 := z_add ev1419 (rfl : (v1418).toInt = _) (rfl : (x1357_2).toInt = _) (by omega) (by omega)
                                  have hFc := free_all hD hS hA
                                  refine va_callv (va_runV (As := [.int 2, .int v1419]) (rest := []) ⟨hx, hb, hml, hown, ht⟩ (c_X12_readClause_r2 l dC dI H.size h g ca (u2 (u2 (u2 (u2 (u2 iv 12 34 n1371) 12 35 w1357_i_12_35) 12 36 w1357_i_12_36) 12 37 n1372) 12 38 n1373) lv (u2 (u2 (u2 (u2 (u2 (u2 fa 12 26 w1357_a_12_26) 12 28 w1357_a_12_28) 12 30 w1357_a_12_30) 12 29 w1357_a_12_29) 12 31 w1357_a_12_31) 12 27 w1357_a_12_27) la (IX_a (c := 12) (k := 27) (IX_a (c := 12) (k := 31) (IX_a (c := 12) (k := 29) (IX_a (c := 12) (k := 30) (IX_a (c := 12) (k := 28) (IX_a (c := 12) (k := 26) (IX_i (c := 12) (k := 38) (IX_i (c := 12) (k := 37) (IX_i (c := 12) (k := 36) (IX_i (c := 12) (k := 35) (IX_i (c := 12) (k := 34) hI (show inb (0, 200) n1371 from ⟨by omega, by omega⟩)) (show inb (0, 5) w1357_i_12_35 from ⟨by omega, by omega⟩)) (full_i _)) (show inb (0, 200) n1372 from ⟨by omega, by omega⟩)) (show inb (0, 200) n1373 from ⟨by omega, by omega⟩)) hw1357_a_12_26) hw1357_a_12_28) hw1357_a_12_30) hw1357_a_12_29) hw1357_a_12_31) hw1357_a_12_27) v1419 (show 0 ≤ (w1357_i_12_35 : Int32).toInt ∧ (w1357_i_12_35 : Int32).toInt ≤ 0 from ⟨by omega, by omega⟩) ⟨by omega, by omega⟩ hJT) (kV 2 ht m_1476 m_1478 m_51 m_89 m_1479 rfl rfl hd_X12_readClause_v ⟨Nat.le_of_ble_eq_true rfl, Nat.le_of_ble_eq_true rfl⟩) (vW hP hK hD (rM_12 hK hP)) rfl rfl hl.1 rfl (lv_room (Nat.le_of_ble_eq_true rfl)) dX12_rule_204 ⟨Nat.le_of_ble_eq_true rfl, Nat.le_of_ble_eq_true rfl⟩) hS (fun q _ h => hFc q h) hFc (fun u t H1 locs ht9 hvm hr1420 hB hz1 hk1 hS => ?_)
                                  obtain ⟨n1421, n1422, n1423, n1424, n1425, n1426, n1427, n1428, n1429, n1430, hn1424, hn1426, hn1427, hn1429, hn1430, xr1420_0, xr1420_1, xr1420_2, xr1420_3, xr1420_4, xr1420_5, xr1420_6, xr1420_7, rfl⟩ := hr1420
                                  have hn1421 : ∀ j, inb (bA 12 26 j) (n1421 j) := fun j => full_i _
                                  have hn1422 : ∀ j, inb (bA 12 28 j) (n1422 j) := fun j => full_i _
                                  have hn1423 : ∀ j, inb (bA 12 29 j) (n1423 j) := fun j => full_i _
                                  have hn1425 : ∀ j, inb (bA 12 31 j) (n1425 j) := fun j => full_i _
                                  have hn1426 : 0 ≤ n1426.toInt ∧ n1426.toInt ≤ 200 := hn1426
                                  have hn1427 : 0 ≤ n1427.toInt ∧ n1427.toInt ≤ 5 := hn1427
                                  have hn1429 : 0 ≤ n1429.toInt ∧ n1429.toInt ≤ 200 := hn1429
                                  have hn1430 : 0 ≤ n1430.toInt ∧ n1430.toInt ≤ 200 := hn1430
                                  obtain ⟨hP, hD⟩ := hB
                                  rw [ht9] at hP
                                  generalize H1 = H at hP hS ⊢
                                  have hP : va_P (dC, dI) classes (WM h g ca (u2 (u2 (u2 (u2 (u2 iv 12 34 n1426) 12 35 n1427) 12 36 n1428) 12 37 n1429) 12 38 n1430) lv (u2 (u2 (u2 (u2 (u2 (u2 fa 12 26 n1421) 12 28 n1422) 12 30 n1424) 12 29 n1423) 12 31 n1425) 12 27 w1357_a_12_27) la) H := hP
                                  have hD : va_D A (WM h g ca (u2 (u2 (u2 (u2 (u2 iv 12 34 n1426) 12 35 n1427) 12 36 n1428) 12 37 n1429) 12 38 n1430) lv (u2 (u2 (u2 (u2 (u2 (u2 fa 12 26 n1421) 12 28 n1422) 12 30 n1424) 12 29 n1423) 12 31 n1425) 12 27 w1357_a_12_27) la) := (show va_D _ (WM h g ca (u2 (u2 (u2 (u2 (u2 iv 12 34 n1426) 12 35 n1427) 12 36 n1428) 12 37 n1429) 12 38 n1430) lv (u2 (u2 (u2 (u2 (u2 (u2 fa 12 26 n1421) 12 28 n1422) 12 30 n1424) 12 29 n1423) 12 31 n1425) 12 27 w1357_a_12_27) la) from hD).weaken (fun _ _ _ h => hFc _ h)
                                  have xr1420_0 : (n1371 : Int32).toInt ≤ (n1426 : Int32).toInt := xr1420_0
                                  have xr1420_1 : ∀ j : Nat, j ≠ (v1419 : Int32).toNatClampNeg → n1421 j = w1357_a_12_26 j ∧ w1357_a_12_27 j = w1357_a_12_27 j ∧ n1422 j = w1357_a_12_28 j := xr1420_1
                                  have xr1420_2 : ((n1427 : Int32).toInt ≠ 0 ∨ gd3 (n1421 (v1419 : Int32).toNatClampNeg) (w1357_a_12_27 (v1419 : Int32).toNatClampNeg) (n1422 (v1419 : Int32).toNatClampNeg)) := xr1420_2
                                  have xr1420_3 : ∀ j : Nat, j ≠ (v1419 : Int32).toNatClampNeg → n1423 j = w1357_a_12_29 j ∧ n1424 j = w1357_a_12_30 j := xr1420_3
                                  have xr1420_4 : ∀ j : Nat, (j : Int) < 8 * (v1419 : Int32).toInt → n1425 j = w1357_a_12_31 j := xr1420_4
                                  have xr1420_5 : n1421 ((v1419 : Int32).toInt).toNat = 2 := xr1420_5
                                  have xr1420_6 : (((n1427 : Int32).toInt ≠ 0 ∧ ∃ (b kd v1 v2 : Int) (wd : Nat → Int), NamR (fun j => sg ((fa 12 32) j).toInt) ((iv 12 33) : Int32).toInt (n1371 : Int32).toInt (n1427 : Int32).toInt (n1428 : Int32).toInt b kd v1 v2 wd) ∨ ((n1427 : Int32).toInt = 0 ∧ (n1428 : Int32).toInt = (w1357_i_12_36 : Int32).toInt ∧ NamR (fun j => sg ((fa 12 32) j).toInt) ((iv 12 33) : Int32).toInt (n1371 : Int32).toInt 0 0 (n1426 : Int32).toInt 6 (n1422 ((v1419 : Int32).toInt).toNat).toInt (n1423 ((v1419 : Int32).toInt).toNat).toInt (fun j => if (j : Int) < (n1424 ((v1419 : Int32).toInt).toNat).toInt then (n1425 (8 * ((v1419 : Int32).toInt).toNat + j)).toInt else 0))) := xr1420_6
                                  have xr1420_7 : ((n1427 : Int32).toInt ≠ 0 ∨ ∀ q : Nat, (q : Int) < (n1424 ((v1419 : Int32).toInt).toNat).toInt → 97 ≤ (n1425 (8 * ((v1419 : Int32).toInt).toNat + q)).toInt) := xr1420_7
                                  obtain ⟨v1431, ev1431⟩ : ∃ y : Int32, y = x1357_2 + 1 := ⟨_, rfl⟩
                                  have tv1431 := z_add ev1431 rfl (by decide : (1 : Int32).toInt = 1) (by omega) (by omega)
                                  refine lv_iinc (v := v1431) (lv' := [(2, .int v1431), (3, .int 2), (0, .ref h), (1, .int a)]) hx hb dX12_rule_207 hl (k := 1) rfl (by rw [ev1431]; rfl) (by decide) rfl (fun ls hl => ?_)
                                  refine lv_goto (tgt := 39) hx hb dX12_rule_210 (by decide) ?_
                                  exact ih1358 v1431 n1426 n1427 n1428 n1429 n1430 n1421 n1422 n1424 n1423 n1425 w1357_a_12_27 ⟨by omega, by omega⟩ ⟨by omega, by omega⟩ ⟨by omega, by omega⟩ ⟨by omega, by omega⟩ ⟨by omega, by omega⟩ hn1421 hn1422 hn1424 hn1423 hn1425 hw1357_a_12_27 (show ∀ j : Nat, (j : Int) < 12 * ((iv 12 23) : Int32).toInt → n1421 j = (fa 12 26) j ∧ w1357_a_12_27 j = (fa 12 27) j ∧ n1422 j = (fa 12 28) j from (fun j h => have hj : j ≠ (v1419 : Int32).toNatClampNeg := (show j ≠ (v1419 : Int32).toInt.toNat from by omega); ⟨(xr1420_1 j hj).1.trans (hq1358_0 j h).1, (xr1420_1 j hj).2.1.trans (hq1358_0 j h).2.1, (xr1420_1 j hj).2.2.trans (hq1358_0 j h).2.2⟩)) (show ((n1427 : Int32).toInt ≠ 0 ∨ ∀ j : Nat, 12 * ((iv 12 23) : Int32).toInt ≤ (j : Int) → (j : Int) < 12 * ((iv 12 23) : Int32).toInt + (v1431 : Int32).toInt → gd3 (n1421 j) (w1357_a_12_27 j) (n1422 j)) from (by
                                        by_cases h0 : (n1427 : Int32).toInt = 0
                                        · refine Or.inr (fun j h1 h2 => ?_)
                                          by_cases hj : j = (v1419 : Int32).toNatClampNeg
                                          · rw [hj]; exact xr1420_2.resolve_left (by omega)
                                          · have q := xr1420_1 j hj
                                            rw [q.1, q.2.1, q.2.2]
                                            refine (hq1358_1.resolve_left (by omega)) j h1 ?_
                                            have hj2 : j ≠ (v1419 : Int32).toInt.toNat := hj
                                            omega
                                        · exact Or.inl h0)) (show (((n1427 : Int32).toInt = 0 ∧ (n1428 : Int32).toInt = -1 ∧ Pf (fun j => sg ((fa 12 32) j).toInt) ((iv 12 33) : Int32).toInt ((iv 12 23) : Int32).toInt (fun i => if (n1421 (12 * (((iv 12 23) : Int32).toInt).toNat + i)).toInt = 0 then (w1357_a_12_27 (12 * (((iv 12 23) : Int32).toInt).toNat + i)).toInt else (n1421 (12 * (((iv 12 23) : Int32).toInt).toNat + i)).toInt + 4) (fun i => (n1422 (12 * (((iv 12 23) : Int32).toInt).toNat + i)).toInt) (fun i => (n1423 (12 * (((iv 12 23) : Int32).toInt).toNat + i)).toInt) (fun i j => if (j : Int) < (n1424 (12 * (((iv 12 23) : Int32).toInt).toNat + i)).toInt then (n1425 (8 * (12 * (((iv 12 23) : Int32).toInt).toNat + i) + j)).toInt else 0) ((v1431 : Int32).toInt).toNat (n1426 : Int32).toInt) ∨ ((n1427 : Int32).toInt ≠ 0 ∧ ∃ c : Nat, Out (fun j => sg ((fa 12 32) j).toInt) ((iv 12 33) : Int32).toInt ((iv 12 23) : Int32).toInt (n1427 : Int32).toInt (n1428 : Int32).toInt c (fun i => if (n1421 (12 * (((iv 12 23) : Int32).toInt).toNat + i)).toInt = 0 then (w1357_a_12_27 (12 * (((iv 12 23) : Int32).toInt).toNat + i)).toInt else (n1421 (12 * (((iv 12 23) : Int32).toInt).toNat + i)).toInt + 4) (fun i => (n1422 (12 * (((iv 12 23) : Int32).toInt).toNat + i)).toInt) (fun i => (n1423 (12 * (((iv 12 23) : Int32).toInt).toNat + i)).toInt) (fun i j => if (j : Int) < (n1424 (12 * (((iv 12 23) : Int32).toInt).toNat + i)).toInt then (n1425 (8 * (12 * (((iv 12 23) : Int32).toInt).toNat + i) + j)).toInt else 0))) from (by
                                        rcases hq1358_2 with ⟨yi1, yi2, yi3⟩ | ⟨yi1, -⟩
                                        · have yse := Sk_un (by omega) (Sk_id xr1362_1) xr1370_2
                                          have ysn : (n1363 : Int32).toInt < (iv 12 33).toInt := by omega
                                          have yrn := xr1370_3
                                          rw [← yse] at yrn
                                          have yg0 := ((cw_let xr1374_0).resolve_left (fun q => by omega)).2
                                          rw [xr1370_1, ← yse] at yg0
                                          have yg1 := ((cw_take xr1376_0).resolve_left (fun q => by omega)).2
                                          rw [xr1370_1, ← yse] at yg1
                                          have yg2 := ((cw_name xr1378_0).resolve_right (fun q => by omega)).2
                                          rw [xr1370_1, ← yse] at yg2
                                          have yk : kwK (fun j => sg (fa 12 32 j).toInt) (n1363 : Int32).toInt (n1371 : Int32).toInt = 2 := by unfold kwK; rw [if_neg yg0, if_neg yg1, if_pos yg2]
                                          have yc9 : ((((x1357_2 : Int32).toInt).toNat : Nat) : Int) = (x1357_2 : Int32).toInt := Int.toNat_of_nonneg (by omega)
                                          have yK : ((v1419 : Int32).toInt).toNat = (12 * ((iv 12 23).toInt).toNat + ((x1357_2 : Int32).toInt).toNat) := by omega
                                          have yp9 : Pf (fun j => sg (fa 12 32 j).toInt) (iv 12 33).toInt (iv 12 23).toInt (fun i => if (n1421 (12 * ((iv 12 23).toInt).toNat + i)).toInt = 0 then (w1357_a_12_27 (12 * ((iv 12 23).toInt).toNat + i)).toInt else (n1421 (12 * ((iv 12 23).toInt).toNat + i)).toInt + 4) (fun i => (n1422 (12 * ((iv 12 23).toInt).toNat + i)).toInt) (fun i => (n1423 (12 * ((iv 12 23).toInt).toNat + i)).toInt) (fun i j => if (j : Int) < (n1424 (12 * ((iv 12 23).toInt).toNat + i)).toInt then (n1425 (8 * (12 * ((iv 12 23).toInt).toNat + i) + j)).toInt else 0) ((x1357_2 : Int32).toInt).toNat (w1357_i_12_34 : Int32).toInt := by
                                            refine Pf_cg _ _ (fun i hi => ⟨?_, ?_, ?_, fun j hj => ?_⟩) yi3
                                            · show (if (w1357_a_12_26 (12 * ((iv 12 23).toInt).toNat + i)).toInt = 0 then (w1357_a_12_27 (12 * ((iv 12 23).toInt).toNat + i)).toInt else (w1357_a_12_26 (12 * ((iv 12 23).toInt).toNat + i)).toInt + 4) = (if (n1421 (12 * ((iv 12 23).toInt).toNat + i)).toInt = 0 then (w1357_a_12_27 (12 * ((iv 12 23).toInt).toNat + i)).toInt else (n1421 (12 * ((iv 12 23).toInt).toNat + i)).toInt + 4)
                                              rw [(xr1420_1 (12 * ((iv 12 23).toInt).toNat + i) (show (12 * ((iv 12 23).toInt).toNat + i) ≠ ((v1419 : Int32).toInt).toNat from by omega)).1, (xr1420_1 (12 * ((iv 12 23).toInt).toNat + i) (show (12 * ((iv 12 23).toInt).toNat + i) ≠ ((v1419 : Int32).toInt).toNat from by omega)).2.1]
                                            · exact congrArg Int32.toInt (xr1420_1 (12 * ((iv 12 23).toInt).toNat + i) (show (12 * ((iv 12 23).toInt).toNat + i) ≠ ((v1419 : Int32).toInt).toNat from by omega)).2.2.symm
                                            · exact congrArg Int32.toInt (xr1420_3 (12 * ((iv 12 23).toInt).toNat + i) (show (12 * ((iv 12 23).toInt).toNat + i) ≠ ((v1419 : Int32).toInt).toNat from by omega)).1.symm
                                            · show (if (j : Int) < (w1357_a_12_30 (12 * ((iv 12 23).toInt).toNat + i)).toInt then (w1357_a_12_31 (8 * (12 * ((iv 12 23).toInt).toNat + i) + j)).toInt else 0) = (if (j : Int) < (n1424 (12 * ((iv 12 23).toInt).toNat + i)).toInt then (n1425 (8 * (12 * ((iv 12 23).toInt).toNat + i) + j)).toInt else 0)
                                              rw [(xr1420_3 (12 * ((iv 12 23).toInt).toNat + i) (show (12 * ((iv 12 23).toInt).toNat + i) ≠ ((v1419 : Int32).toInt).toNat from by omega)).2, xr1420_4 (8 * (12 * ((iv 12 23).toInt).toNat + i) + j) (by omega)]
                                          rcases xr1420_6 with ⟨yr1, yb, ykd, yv1, yv2, ywd, yr2⟩ | ⟨yr1, yr2, yr3⟩
                                          · exact Or.inr ⟨by omega, _, _, _, yp9, xr1362_1, Or.inr ⟨ysn, by omega, yb, ykd, yv1, yv2, ywd, _, yrn, Or.inr (Or.inr (Or.inr (Or.inr (Or.inl ⟨yk, by omega, yr2⟩))))⟩⟩
                                          · have yx := xr1420_5
                                            rw [yK] at yr3 yx
                                            have ye : (if (n1421 (12 * ((iv 12 23).toInt).toNat + ((x1357_2 : Int32).toInt).toNat)).toInt = 0 then (w1357_a_12_27 (12 * ((iv 12 23).toInt).toNat + ((x1357_2 : Int32).toInt).toNat)).toInt else (n1421 (12 * ((iv 12 23).toInt).toNat + ((x1357_2 : Int32).toInt).toNat)).toInt + 4) = 6 := by
                                              rw [yx]; exact (if_neg (by decide)).trans (by decide)
                                            refine Or.inl ⟨by omega, by omega, ?_⟩
                                            rw [show ((v1431 : Int32).toInt).toNat = ((x1357_2 : Int32).toInt).toNat + 1 from by omega]
                                            refine Pf_S yp9 xr1362_1 ysn (p := 0) ?_
                                            rw [yc9]
                                            show ClR (fun j => sg (fa 12 32 j).toInt) (iv 12 33).toInt (iv 12 23).toInt (n1363 : Int32).toInt (x1357_2 : Int32).toInt 0 0 (n1426 : Int32).toInt (if (n1421 (12 * ((iv 12 23).toInt).toNat + ((x1357_2 : Int32).toInt).toNat)).toInt = 0 then (w1357_a_12_27 (12 * ((iv 12 23).toInt).toNat + ((x1357_2 : Int32).toInt).toNat)).toInt else (n1421 (12 * ((iv 12 23).toInt).toNat + ((x1357_2 : Int32).toInt).toNat)).toInt + 4) _ _ _
                                            rw [ye]
                                            exact ⟨_, yrn, Or.inr (Or.inr (Or.inr (Or.inr (Or.inl ⟨yk, by omega, yr3⟩))))⟩
                                        · exfalso; omega)) (show 0 ≤ (v1431 : Int32).toInt from by omega) (show ∀ j : Nat, (j : Int) < 12 * ((iv 12 23) : Int32).toInt → n1423 j = (fa 12 29) j ∧ n1424 j = (fa 12 30) j from (fun j h => have hj : j ≠ (v1419 : Int32).toNatClampNeg := (show j ≠ (v1419 : Int32).toInt.toNat from by omega); ⟨(xr1420_3 j hj).1.trans (hq1358_4 j h).1, (xr1420_3 j hj).2.trans (hq1358_4 j h).2⟩)) (show ∀ j : Nat, (j : Int) < 96 * ((iv 12 23) : Int32).toInt → n1425 j = (fa 12 31) j from (fun j h => (xr1420_4 j (by omega)).trans (hq1358_5 j h))) (show ((n1427 : Int32).toInt ≠ 0 ∨ ∀ j : Nat, 12 * ((iv 12 23) : Int32).toInt ≤ (j : Int) → (j : Int) < 12 * ((iv 12 23) : Int32).toInt + (v1431 : Int32).toInt → gk (n1421 j) (w1357_a_12_27 j)) from (by
                                        by_cases h0 : (n1427 : Int32).toInt = 0
                                        · refine Or.inr (fun j h1 h2 => ?_)
                                          by_cases hj : j = ((v1419 : Int32).toInt).toNat
                                          · have e5 : n1421 ((v1419 : Int32).toInt).toNat = 2 := xr1420_5
                                            rw [hj]; unfold gk; rw [e5]; exact Or.inr ⟨by decide, by decide⟩
                                          · have q := xr1420_1 j hj
                                            rw [q.1, q.2.1]
                                            exact (hq1358_6.resolve_left (by omega)) j h1 (by omega)
                                        · exact Or.inl h0)) (show ((n1427 : Int32).toInt ≠ 0 ∨ ∀ j : Nat, 12 * ((iv 12 23) : Int32).toInt ≤ (j : Int) → (j : Int) < 12 * ((iv 12 23) : Int32).toInt + (v1431 : Int32).toInt → (n1421 j).toInt = 2 → ∀ q : Nat, (q : Int) < (n1424 j).toInt → 97 ≤ (n1425 (8 * j + q)).toInt) from (by
                                        by_cases h0 : (n1427 : Int32).toInt = 0
                                        · refine Or.inr (fun j h1 h2 h3 q hq => ?_)
                                          by_cases hj : j = ((v1419 : Int32).toInt).toNat
                                          · have e5 : n1421 ((v1419 : Int32).toInt).toNat = 2 := xr1420_5
                                            rw [hj] at h3 hq ⊢
                                            exact (xr1420_7.resolve_left (fun z => by omega)) q hq
                                          · have y := xr1420_1 j hj
                                            have y3 := (xr1420_3 j hj).2
                                            have hb9 : 0 ≤ (n1424 j).toInt ∧ (n1424 j).toInt ≤ 8 := (hn1424 j)
                                            rw [y.1] at h3
                                            rw [xr1420_4 (8 * j + q) (by omega)]
                                            rw [y3] at hq
                                            exact (hq1358_7.resolve_left (by omega)) j h1 (by omega) h3 q hq
                                        · exact Or.inl h0)) (by omega) _ _ ls hP hD hS (lv_sub hl [0, 2, 3] rfl)
                              · skip
                                have fr1416 : ¬ ((w1357_i_12_35 : Int32).toInt = 0) := fr1416
                                exfalso; omega
                        · skip
                          have fr1409 : ¬ ((w1357_i_12_35 : Int32).toInt = 0) := fr1409
                          exfalso; omega
                  · have fc1377 := z_ne (rfl : (r1376).toInt = _) (by decide : (0 : Int32).toInt = 0) c1377
                    refine lv_iconst (v := 1) hx hb dX12_rule_96 (by decide) ?_
                    refine lv_goto (tgt := 148) hx hb dX12_rule_97 (by decide) ?_
                    refine lv_istore_n (lv' := [(3, .int 1), (2, .int x1357_2), (0, .ref h), (1, .int a)]) hx hb dX12_rule_148 rfl hl (by decide) rfl (fun ls hl => ?_)
                    refine lv_aload_n hx hb dX12_rule_149 rfl (lv_at hl 2 rfl) ?_
                    refine lv_iload_n hx hb dX12_rule_150 rfl (lv_at hl 0 rfl) ?_
                    refine lv_if_lt (tgt := 158) hx hb dX12_rule_151 (by decide) (fun c1432 => ?_) (fun c1432 => ?_)
                    · exact absurd c1432 (by decide)
                    · skip
                      refine lv_iconst (v := 1) hx hb dX12_rule_154 (by decide) ?_
                      refine lv_goto (tgt := 159) hx hb dX12_rule_155 (by decide) ?_
                      refine lv_iconst (v := 1) hx hb dX12_rule_159 (by decide) ?_
                      refine lv_aload_n hx hb dX12_rule_160 rfl (lv_at hl 2 rfl) ?_
                      refine gM_12_37 hx hb ht hown hK hP m_1176 (v := n1372) rfl dX12_rule_161 ?_
                      refine vp_callSi (W.runV (As := [.int 1, .int 1, .int n1372]) (rest := []) ⟨hx, hb, hml, hown, ht⟩ (c_X12_want_1 l dC dI h g ca (u2 (u2 (u2 (u2 (u2 iv 12 34 n1371) 12 35 w1357_i_12_35) 12 36 w1357_i_12_36) 12 37 n1372) 12 38 n1373) lv (u2 (u2 (u2 (u2 (u2 (u2 fa 12 26 w1357_a_12_26) 12 28 w1357_a_12_28) 12 30 w1357_a_12_30) 12 29 w1357_a_12_29) 12 31 w1357_a_12_31) 12 27 w1357_a_12_27) la (IX_a (c := 12) (k := 27) (IX_a (c := 12) (k := 31) (IX_a (c := 12) (k := 29) (IX_a (c := 12) (k := 30) (IX_a (c := 12) (k := 28) (IX_a (c := 12) (k := 26) (IX_i (c := 12) (k := 38) (IX_i (c := 12) (k := 37) (IX_i (c := 12) (k := 36) (IX_i (c := 12) (k := 35) (IX_i (c := 12) (k := 34) hI (show inb (0, 200) n1371 from ⟨by omega, by omega⟩)) (show inb (0, 5) w1357_i_12_35 from ⟨by omega, by omega⟩)) (full_i _)) (show inb (0, 200) n1372 from ⟨by omega, by omega⟩)) (show inb (0, 200) n1373 from ⟨by omega, by omega⟩)) hw1357_a_12_26) hw1357_a_12_28) hw1357_a_12_30) hw1357_a_12_29) hw1357_a_12_31) hw1357_a_12_27) 1 n1372) (kV 3 ht m_1472 m_1474 m_50 m_89 m_1475 rfl rfl hd_X12_want_v ⟨Nat.le_of_ble_eq_true rfl, Nat.le_of_ble_eq_true rfl⟩) (vR hP hK (rM_12 hK hP)) rfl rfl hl.1 rfl (lv_room (Nat.le_of_ble_eq_true rfl)) dX12_rule_164 ⟨Nat.le_of_ble_eq_true rfl, Nat.le_of_ble_eq_true rfl⟩) (fun r1433 hr1433 => ?_)
                      rcases hr1433 with ⟨rfl, fr1433⟩ | ⟨rfl, fr1433⟩
                      · skip
                        have fr1433 : ((w1357_i_12_35 : Int32).toInt = 0) := fr1433
                        refine lv_if_eq (tgt := 210) hx hb dX12_rule_167 (by decide) (fun c1434 => ?_) (fun c1434 => ?_)
                        · exact absurd c1434 (by decide)
                        · skip
                          refine lv_aload_n hx hb dX12_rule_170 rfl (lv_at hl 2 rfl) ?_
                          refine lv_iload_n hx hb dX12_rule_171 rfl (lv_at hl 1 rfl) ?_
                          refine lv_bipush (v := 12) hx hb dX12_rule_172 (by decide) ?_
                          refine lv_icmp_ge (tgt := 181) hx hb dX12_rule_174 (by decide) (fun c1435 => ?_) (fun c1435 => ?_)
                          · have fc1435 := z_le (by decide : (12 : Int32).toInt = 12) (rfl : (x1357_2).toInt = _) c1435
                            refine lv_iconst (v := 0) hx hb dX12_rule_181 (by decide) ?_
                            refine lv_iconst (v := 5) hx hb dX12_rule_182 (by decide) ?_
                            refine lv_aload_n hx hb dX12_rule_183 rfl (lv_at hl 2 rfl) ?_
                            refine gM_12_37 hx hb ht hown hK hP m_1176 (v := n1372) rfl dX12_rule_184 ?_
                            have hFc := free_all hD hS hA
                            refine va_calli (va_runV (As := [.int 0, .int 5, .int n1372]) (rest := []) ⟨hx, hb, hml, hown, ht⟩ (c_X12_want_r0 l dC dI H.size h g ca (u2 (u2 (u2 (u2 (u2 iv 12 34 n1371) 12 35 w1357_i_12_35) 12 36 w1357_i_12_36) 12 37 n1372) 12 38 n1373) lv (u2 (u2 (u2 (u2 (u2 (u2 fa 12 26 w1357_a_12_26) 12 28 w1357_a_12_28) 12 30 w1357_a_12_30) 12 29 w1357_a_12_29) 12 31 w1357_a_12_31) 12 27 w1357_a_12_27) la (IX_a (c := 12) (k := 27) (IX_a (c := 12) (k := 31) (IX_a (c := 12) (k := 29) (IX_a (c := 12) (k := 30) (IX_a (c := 12) (k := 28) (IX_a (c := 12) (k := 26) (IX_i (c := 12) (k := 38) (IX_i (c := 12) (k := 37) (IX_i (c := 12) (k := 36) (IX_i (c := 12) (k := 35) (IX_i (c := 12) (k := 34) hI (show inb (0, 200) n1371 from ⟨by omega, by omega⟩)) (show inb (0, 5) w1357_i_12_35 from ⟨by omega, by omega⟩)) (full_i _)) (show inb (0, 200) n1372 from ⟨by omega, by omega⟩)) (show inb (0, 200) n1373 from ⟨by omega, by omega⟩)) hw1357_a_12_26) hw1357_a_12_28) hw1357_a_12_30) hw1357_a_12_29) hw1357_a_12_31) hw1357_a_12_27) 5 n1372 ⟨by decide, by decide⟩) (kV 3 ht m_1472 m_1474 m_50 m_89 m_1475 rfl rfl hd_X12_want_v ⟨Nat.le_of_ble_eq_true rfl, Nat.le_of_ble_eq_true rfl⟩) (vW hP hK hD (rM_12 hK hP)) rfl rfl hl.1 rfl (lv_room (Nat.le_of_ble_eq_true rfl)) dX12_rule_187 ⟨Nat.le_of_ble_eq_true rfl, Nat.le_of_ble_eq_true rfl⟩) hS (fun q _ h => hFc q h) hFc (fun r1436 u t H1 locs ht9 hvm hr1436 hB hz1 hk1 hS => ?_)
                            obtain ⟨n1437, n1438, hn1437, xr1436_0, xr1436_1, hr1436, rfl⟩ := hr1436
                            have hn1437 : 0 ≤ n1437.toInt ∧ n1437.toInt ≤ 5 := hn1437
                            obtain ⟨hP, hD⟩ := hB
                            rw [ht9] at hP
                            generalize H1 = H at hP hS ⊢
                            have hP : va_P (dC, dI) classes (WM h g ca (u2 (u2 (u2 (u2 (u2 iv 12 34 n1371) 12 35 n1437) 12 36 n1438) 12 37 n1372) 12 38 n1373) lv (u2 (u2 (u2 (u2 (u2 (u2 fa 12 26 w1357_a_12_26) 12 28 w1357_a_12_28) 12 30 w1357_a_12_30) 12 29 w1357_a_12_29) 12 31 w1357_a_12_31) 12 27 w1357_a_12_27) la) H := hP
                            have hD : va_D A (WM h g ca (u2 (u2 (u2 (u2 (u2 iv 12 34 n1371) 12 35 n1437) 12 36 n1438) 12 37 n1372) 12 38 n1373) lv (u2 (u2 (u2 (u2 (u2 (u2 fa 12 26 w1357_a_12_26) 12 28 w1357_a_12_28) 12 30 w1357_a_12_30) 12 29 w1357_a_12_29) 12 31 w1357_a_12_31) 12 27 w1357_a_12_27) la) := (show va_D _ (WM h g ca (u2 (u2 (u2 (u2 (u2 iv 12 34 n1371) 12 35 n1437) 12 36 n1438) 12 37 n1372) 12 38 n1373) lv (u2 (u2 (u2 (u2 (u2 (u2 fa 12 26 w1357_a_12_26) 12 28 w1357_a_12_28) 12 30 w1357_a_12_30) 12 29 w1357_a_12_29) 12 31 w1357_a_12_31) 12 27 w1357_a_12_27) la) from hD).weaken (fun _ _ _ h => hFc _ h)
                            have xr1436_0 : 1 ≤ (n1437 : Int32).toInt := xr1436_0
                            have : (5 : Int32).toInt = 5 := (by decide)
                            have xr1436_1 : (((w1357_i_12_35 : Int32).toInt = 0 ∧ (n1437 : Int32).toInt = (5 : Int32).toInt ∧ (n1438 : Int32).toInt = (n1372 : Int32).toInt) ∨ ((w1357_i_12_35 : Int32).toInt ≠ 0 ∧ (n1437 : Int32).toInt = (w1357_i_12_35 : Int32).toInt ∧ (n1438 : Int32).toInt = (w1357_i_12_36 : Int32).toInt)) := xr1436_1
                            obtain rfl : 0 = r1436 := hr1436.symm
                            refine lv_if_eq (tgt := 210) hx hb dX12_rule_190 (by decide) (fun c1439 => ?_) (fun c1439 => ?_)
                            · skip
                              refine lv_goto (tgt := 39) hx hb dX12_rule_210 (by decide) ?_
                              exact ih1358 x1357_2 n1371 n1437 n1438 n1372 n1373 w1357_a_12_26 w1357_a_12_28 w1357_a_12_30 w1357_a_12_29 w1357_a_12_31 w1357_a_12_27 ⟨by omega, by omega⟩ ⟨by omega, by omega⟩ ⟨by omega, by omega⟩ ⟨by omega, by omega⟩ ⟨by omega, by omega⟩ hw1357_a_12_26 hw1357_a_12_28 hw1357_a_12_30 hw1357_a_12_29 hw1357_a_12_31 hw1357_a_12_27 (show ∀ j : Nat, (j : Int) < 12 * ((iv 12 23) : Int32).toInt → w1357_a_12_26 j = (fa 12 26) j ∧ w1357_a_12_27 j = (fa 12 27) j ∧ w1357_a_12_28 j = (fa 12 28) j from hq1358_0) (show ((n1437 : Int32).toInt ≠ 0 ∨ ∀ j : Nat, 12 * ((iv 12 23) : Int32).toInt ≤ (j : Int) → (j : Int) < 12 * ((iv 12 23) : Int32).toInt + (x1357_2 : Int32).toInt → gd3 (w1357_a_12_26 j) (w1357_a_12_27 j) (w1357_a_12_28 j)) from Or.inl (by omega)) (show (((n1437 : Int32).toInt = 0 ∧ (n1438 : Int32).toInt = -1 ∧ Pf (fun j => sg ((fa 12 32) j).toInt) ((iv 12 33) : Int32).toInt ((iv 12 23) : Int32).toInt (fun i => if (w1357_a_12_26 (12 * (((iv 12 23) : Int32).toInt).toNat + i)).toInt = 0 then (w1357_a_12_27 (12 * (((iv 12 23) : Int32).toInt).toNat + i)).toInt else (w1357_a_12_26 (12 * (((iv 12 23) : Int32).toInt).toNat + i)).toInt + 4) (fun i => (w1357_a_12_28 (12 * (((iv 12 23) : Int32).toInt).toNat + i)).toInt) (fun i => (w1357_a_12_29 (12 * (((iv 12 23) : Int32).toInt).toNat + i)).toInt) (fun i j => if (j : Int) < (w1357_a_12_30 (12 * (((iv 12 23) : Int32).toInt).toNat + i)).toInt then (w1357_a_12_31 (8 * (12 * (((iv 12 23) : Int32).toInt).toNat + i) + j)).toInt else 0) ((x1357_2 : Int32).toInt).toNat (n1371 : Int32).toInt) ∨ ((n1437 : Int32).toInt ≠ 0 ∧ ∃ c : Nat, Out (fun j => sg ((fa 12 32) j).toInt) ((iv 12 33) : Int32).toInt ((iv 12 23) : Int32).toInt (n1437 : Int32).toInt (n1438 : Int32).toInt c (fun i => if (w1357_a_12_26 (12 * (((iv 12 23) : Int32).toInt).toNat + i)).toInt = 0 then (w1357_a_12_27 (12 * (((iv 12 23) : Int32).toInt).toNat + i)).toInt else (w1357_a_12_26 (12 * (((iv 12 23) : Int32).toInt).toNat + i)).toInt + 4) (fun i => (w1357_a_12_28 (12 * (((iv 12 23) : Int32).toInt).toNat + i)).toInt) (fun i => (w1357_a_12_29 (12 * (((iv 12 23) : Int32).toInt).toNat + i)).toInt) (fun i j => if (j : Int) < (w1357_a_12_30 (12 * (((iv 12 23) : Int32).toInt).toNat + i)).toInt then (w1357_a_12_31 (8 * (12 * (((iv 12 23) : Int32).toInt).toNat + i) + j)).toInt else 0))) from (by
                                    rcases hq1358_2 with ⟨yi1, yi2, yi3⟩ | ⟨yi1, -⟩
                                    · have yse := Sk_un (by omega) (Sk_id xr1362_1) xr1370_2
                                      have ysn : (n1363 : Int32).toInt < (iv 12 33).toInt := by omega
                                      have yrn := xr1370_3
                                      rw [← yse] at yrn
                                      have yg0 := ((cw_let xr1374_0).resolve_left (fun q => by omega)).2
                                      rw [xr1370_1, ← yse] at yg0
                                      have yg1 := ((cw_take xr1376_0).resolve_right (fun q => by omega)).2
                                      rw [xr1370_1, ← yse] at yg1
                                      have yk : kwK (fun j => sg (fa 12 32 j).toInt) (n1363 : Int32).toInt (n1371 : Int32).toInt = 1 := by unfold kwK; rw [if_neg yg0, if_pos yg1]
                                      have yc9 : ((((x1357_2 : Int32).toInt).toNat : Nat) : Int) = (x1357_2 : Int32).toInt := Int.toNat_of_nonneg (by omega)
                                      exact Or.inr ⟨by omega, _, _, _, yi3, xr1362_1, Or.inr ⟨ysn, by omega, 0, 0, 0, 0, (fun _ => 0), _, yrn, Or.inr (Or.inl ⟨by omega, by omega, by omega, by omega⟩)⟩⟩
                                    · exfalso; omega)) (show 0 ≤ (x1357_2 : Int32).toInt from by omega) (show ∀ j : Nat, (j : Int) < 12 * ((iv 12 23) : Int32).toInt → w1357_a_12_29 j = (fa 12 29) j ∧ w1357_a_12_30 j = (fa 12 30) j from hq1358_4) (show ∀ j : Nat, (j : Int) < 96 * ((iv 12 23) : Int32).toInt → w1357_a_12_31 j = (fa 12 31) j from hq1358_5) (show ((n1437 : Int32).toInt ≠ 0 ∨ ∀ j : Nat, 12 * ((iv 12 23) : Int32).toInt ≤ (j : Int) → (j : Int) < 12 * ((iv 12 23) : Int32).toInt + (x1357_2 : Int32).toInt → gk (w1357_a_12_26 j) (w1357_a_12_27 j)) from Or.inl (by omega)) (show ((n1437 : Int32).toInt ≠ 0 ∨ ∀ j : Nat, 12 * ((iv 12 23) : Int32).toInt ≤ (j : Int) → (j : Int) < 12 * ((iv 12 23) : Int32).toInt + (x1357_2 : Int32).toInt → (w1357_a_12_26 j).toInt = 2 → ∀ q : Nat, (q : Int) < (w1357_a_12_30 j).toInt → 97 ≤ (w1357_a_12_31 (8 * j + q)).toInt) from Or.inl (by omega)) (by omega) _ _ ls hP hD hS (lv_sub hl [1, 2, 3] rfl)
                            · exact absurd rfl c1439
                          · have fc1435 := z_nle (by decide : (12 : Int32).toInt = 12) (rfl : (x1357_2).toInt = _) c1435
                            refine lv_iconst (v := 1) hx hb dX12_rule_177 (by decide) ?_
                            refine lv_goto (tgt := 182) hx hb dX12_rule_178 (by decide) ?_
                            refine lv_iconst (v := 5) hx hb dX12_rule_182 (by decide) ?_
                            refine lv_aload_n hx hb dX12_rule_183 rfl (lv_at hl 2 rfl) ?_
                            refine gM_12_37 hx hb ht hown hK hP m_1176 (v := n1372) rfl dX12_rule_184 ?_
                            refine vp_callSi (W.runV (As := [.int 1, .int 5, .int n1372]) (rest := []) ⟨hx, hb, hml, hown, ht⟩ (c_X12_want_1 l dC dI h g ca (u2 (u2 (u2 (u2 (u2 iv 12 34 n1371) 12 35 w1357_i_12_35) 12 36 w1357_i_12_36) 12 37 n1372) 12 38 n1373) lv (u2 (u2 (u2 (u2 (u2 (u2 fa 12 26 w1357_a_12_26) 12 28 w1357_a_12_28) 12 30 w1357_a_12_30) 12 29 w1357_a_12_29) 12 31 w1357_a_12_31) 12 27 w1357_a_12_27) la (IX_a (c := 12) (k := 27) (IX_a (c := 12) (k := 31) (IX_a (c := 12) (k := 29) (IX_a (c := 12) (k := 30) (IX_a (c := 12) (k := 28) (IX_a (c := 12) (k := 26) (IX_i (c := 12) (k := 38) (IX_i (c := 12) (k := 37) (IX_i (c := 12) (k := 36) (IX_i (c := 12) (k := 35) (IX_i (c := 12) (k := 34) hI (show inb (0, 200) n1371 from ⟨by omega, by omega⟩)) (show inb (0, 5) w1357_i_12_35 from ⟨by omega, by omega⟩)) (full_i _)) (show inb (0, 200) n1372 from ⟨by omega, by omega⟩)) (show inb (0, 200) n1373 from ⟨by omega, by omega⟩)) hw1357_a_12_26) hw1357_a_12_28) hw1357_a_12_30) hw1357_a_12_29) hw1357_a_12_31) hw1357_a_12_27) 5 n1372) (kV 3 ht m_1472 m_1474 m_50 m_89 m_1475 rfl rfl hd_X12_want_v ⟨Nat.le_of_ble_eq_true rfl, Nat.le_of_ble_eq_true rfl⟩) (vR hP hK (rM_12 hK hP)) rfl rfl hl.1 rfl (lv_room (Nat.le_of_ble_eq_true rfl)) dX12_rule_187 ⟨Nat.le_of_ble_eq_true rfl, Nat.le_of_ble_eq_true rfl⟩) (fun r1440 hr1440 => ?_)
                            rcases hr1440 with ⟨rfl, fr1440⟩ | ⟨rfl, fr1440⟩
                            · skip
                              have fr1440 : ((w1357_i_12_35 : Int32).toInt = 0) := fr1440
                              refine lv_if_eq (tgt := 210) hx hb dX12_rule_190 (by decide) (fun c1441 => ?_) (fun c1441 => ?_)
                              · exact absurd c1441 (by decide)
                              · skip
                                refine lv_aload_n hx hb dX12_rule_193 rfl (lv_at hl 2 rfl) ?_
                                refine lv_iload_n hx hb dX12_rule_194 rfl (lv_at hl 0 rfl) ?_
                                refine lv_bipush (v := 12) hx hb dX12_rule_195 (by decide) ?_
                                refine lv_aload_n hx hb dX12_rule_197 rfl (lv_at hl 2 rfl) ?_
                                refine gM_12_23 hx hb ht hown hK hP m_1162 (v := (iv 12 23)) rfl dX12_rule_198 ?_
                                refine lv_imul hx hb dX12_rule_201 ?_
                                refine lv_topi (fun v1442 ev1442 => ?_)
                                have tv1442 := z_mul ev1442 (by decide : (12 : Int32).toInt = 12) (rfl : ((iv 12 23)).toInt = _) (by omega) (by omega)
                                refine lv_iload_n hx hb dX12_rule_202 rfl (lv_at hl 1 rfl) ?_
                                refine lv_iadd hx hb dX12_rule_203 ?_
                                refine lv_topi (fun v1443 ev1443 => ?_)
                                have tv1443 := z_add ev1443 (rfl : (v1442).toInt = _) (rfl : (x1357_2).toInt = _) (by omega) (by omega)
                                have hFc := free_all hD hS hA
                                refine va_callv (va_runV (As := [.int 1, .int v1443]) (rest := []) ⟨hx, hb, hml, hown, ht⟩ (c_X12_readClause_r1 l dC dI H.size h g ca (u2 (u2 (u2 (u2 (u2 iv 12 34 n1371) 12 35 w1357_i_12_35) 12 36 w1357_i_12_36) 12 37 n1372) 12 38 n1373) lv (u2 (u2 (u2 (u2 (u2 (u2 fa 12 26 w1357_a_12_26) 12 28 w1357_a_12_28) 12 30 w1357_a_12_30) 12 29 w1357_a_12_29) 12 31 w1357_a_12_31) 12 27 w1357_a_12_27) la (IX_a (c := 12) (k := 27) (IX_a (c := 12) (k := 31) (IX_a (c := 12) (k := 29) (IX_a (c := 12) (k := 30) (IX_a (c := 12) (k := 28) (IX_a (c := 12) (k := 26) (IX_i (c := 12) (k := 38) (IX_i (c := 12) (k := 37) (IX_i (c := 12) (k := 36) (IX_i (c := 12) (k := 35) (IX_i (c := 12) (k := 34) hI (show inb (0, 200) n1371 from ⟨by omega, by omega⟩)) (show inb (0, 5) w1357_i_12_35 from ⟨by omega, by omega⟩)) (full_i _)) (show inb (0, 200) n1372 from ⟨by omega, by omega⟩)) (show inb (0, 200) n1373 from ⟨by omega, by omega⟩)) hw1357_a_12_26) hw1357_a_12_28) hw1357_a_12_30) hw1357_a_12_29) hw1357_a_12_31) hw1357_a_12_27) v1443 (show 0 ≤ (w1357_i_12_35 : Int32).toInt ∧ (w1357_i_12_35 : Int32).toInt ≤ 0 from ⟨by omega, by omega⟩) ⟨by omega, by omega⟩ hJT) (kV 2 ht m_1476 m_1478 m_51 m_89 m_1479 rfl rfl hd_X12_readClause_v ⟨Nat.le_of_ble_eq_true rfl, Nat.le_of_ble_eq_true rfl⟩) (vW hP hK hD (rM_12 hK hP)) rfl rfl hl.1 rfl (lv_room (Nat.le_of_ble_eq_true rfl)) dX12_rule_204 ⟨Nat.le_of_ble_eq_true rfl, Nat.le_of_ble_eq_true rfl⟩) hS (fun q _ h => hFc q h) hFc (fun u t H1 locs ht9 hvm hr1444 hB hz1 hk1 hS => ?_)
                                obtain ⟨n1445, n1446, n1447, n1448, n1449, n1450, n1451, n1452, hn1447, hn1448, hn1449, hn1451, hn1452, xr1444_0, xr1444_1, xr1444_2, xr1444_3, xr1444_4, xr1444_5, xr1444_6, rfl⟩ := hr1444
                                have hn1445 : ∀ j, inb (bA 12 26 j) (n1445 j) := fun j => full_i _
                                have hn1446 : ∀ j, inb (bA 12 28 j) (n1446 j) := fun j => full_i _
                                have hn1448 : 0 ≤ n1448.toInt ∧ n1448.toInt ≤ 200 := hn1448
                                have hn1449 : 0 ≤ n1449.toInt ∧ n1449.toInt ≤ 5 := hn1449
                                have hn1451 : 0 ≤ n1451.toInt ∧ n1451.toInt ≤ 200 := hn1451
                                have hn1452 : 0 ≤ n1452.toInt ∧ n1452.toInt ≤ 200 := hn1452
                                obtain ⟨hP, hD⟩ := hB
                                rw [ht9] at hP
                                generalize H1 = H at hP hS ⊢
                                have hP : va_P (dC, dI) classes (WM h g ca (u2 (u2 (u2 (u2 (u2 iv 12 34 n1448) 12 35 n1449) 12 36 n1450) 12 37 n1451) 12 38 n1452) lv (u2 (u2 (u2 (u2 (u2 (u2 fa 12 26 n1445) 12 28 n1446) 12 30 n1447) 12 29 w1357_a_12_29) 12 31 w1357_a_12_31) 12 27 w1357_a_12_27) la) H := hP
                                have hD : va_D A (WM h g ca (u2 (u2 (u2 (u2 (u2 iv 12 34 n1448) 12 35 n1449) 12 36 n1450) 12 37 n1451) 12 38 n1452) lv (u2 (u2 (u2 (u2 (u2 (u2 fa 12 26 n1445) 12 28 n1446) 12 30 n1447) 12 29 w1357_a_12_29) 12 31 w1357_a_12_31) 12 27 w1357_a_12_27) la) := (show va_D _ (WM h g ca (u2 (u2 (u2 (u2 (u2 iv 12 34 n1448) 12 35 n1449) 12 36 n1450) 12 37 n1451) 12 38 n1452) lv (u2 (u2 (u2 (u2 (u2 (u2 fa 12 26 n1445) 12 28 n1446) 12 30 n1447) 12 29 w1357_a_12_29) 12 31 w1357_a_12_31) 12 27 w1357_a_12_27) la) from hD).weaken (fun _ _ _ h => hFc _ h)
                                have xr1444_0 : (n1371 : Int32).toInt ≤ (n1448 : Int32).toInt := xr1444_0
                                have xr1444_1 : ∀ j : Nat, j ≠ (v1443 : Int32).toNatClampNeg → n1445 j = w1357_a_12_26 j ∧ w1357_a_12_27 j = w1357_a_12_27 j ∧ n1446 j = w1357_a_12_28 j := xr1444_1
                                have xr1444_2 : ((n1449 : Int32).toInt ≠ 0 ∨ gd3 (n1445 (v1443 : Int32).toNatClampNeg) (w1357_a_12_27 (v1443 : Int32).toNatClampNeg) (n1446 (v1443 : Int32).toNatClampNeg)) := xr1444_2
                                have xr1444_3 : ∀ j : Nat, j ≠ (v1443 : Int32).toNatClampNeg → w1357_a_12_29 j = w1357_a_12_29 j ∧ n1447 j = w1357_a_12_30 j := xr1444_3
                                have xr1444_4 : ∀ j : Nat, (j : Int) < 8 * (v1443 : Int32).toInt → w1357_a_12_31 j = w1357_a_12_31 j := xr1444_4
                                have xr1444_5 : n1445 ((v1443 : Int32).toInt).toNat = 1 := xr1444_5
                                have xr1444_6 : (((n1449 : Int32).toInt ≠ 0 ∧ ∃ b kd v1 : Int, TakR (fun j => sg ((fa 12 32) j).toInt) ((iv 12 33) : Int32).toInt (n1371 : Int32).toInt (n1449 : Int32).toInt (n1450 : Int32).toInt b kd v1) ∨ ((n1449 : Int32).toInt = 0 ∧ (n1450 : Int32).toInt = (w1357_i_12_36 : Int32).toInt ∧ TakR (fun j => sg ((fa 12 32) j).toInt) ((iv 12 33) : Int32).toInt (n1371 : Int32).toInt 0 0 (n1448 : Int32).toInt 5 (n1446 ((v1443 : Int32).toInt).toNat).toInt)) := xr1444_6
                                obtain ⟨v1453, ev1453⟩ : ∃ y : Int32, y = x1357_2 + 1 := ⟨_, rfl⟩
                                have tv1453 := z_add ev1453 rfl (by decide : (1 : Int32).toInt = 1) (by omega) (by omega)
                                refine lv_iinc (v := v1453) (lv' := [(2, .int v1453), (3, .int 1), (0, .ref h), (1, .int a)]) hx hb dX12_rule_207 hl (k := 1) rfl (by rw [ev1453]; rfl) (by decide) rfl (fun ls hl => ?_)
                                refine lv_goto (tgt := 39) hx hb dX12_rule_210 (by decide) ?_
                                exact ih1358 v1453 n1448 n1449 n1450 n1451 n1452 n1445 n1446 n1447 w1357_a_12_29 w1357_a_12_31 w1357_a_12_27 ⟨by omega, by omega⟩ ⟨by omega, by omega⟩ ⟨by omega, by omega⟩ ⟨by omega, by omega⟩ ⟨by omega, by omega⟩ hn1445 hn1446 hn1447 hw1357_a_12_29 hw1357_a_12_31 hw1357_a_12_27 (show ∀ j : Nat, (j : Int) < 12 * ((iv 12 23) : Int32).toInt → n1445 j = (fa 12 26) j ∧ w1357_a_12_27 j = (fa 12 27) j ∧ n1446 j = (fa 12 28) j from (fun j h => have hj : j ≠ (v1443 : Int32).toNatClampNeg := (show j ≠ (v1443 : Int32).toInt.toNat from by omega); ⟨(xr1444_1 j hj).1.trans (hq1358_0 j h).1, (xr1444_1 j hj).2.1.trans (hq1358_0 j h).2.1, (xr1444_1 j hj).2.2.trans (hq1358_0 j h).2.2⟩)) (show ((n1449 : Int32).toInt ≠ 0 ∨ ∀ j : Nat, 12 * ((iv 12 23) : Int32).toInt ≤ (j : Int) → (j : Int) < 12 * ((iv 12 23) : Int32).toInt + (v1453 : Int32).toInt → gd3 (n1445 j) (w1357_a_12_27 j) (n1446 j)) from (by
                                      by_cases h0 : (n1449 : Int32).toInt = 0
                                      · refine Or.inr (fun j h1 h2 => ?_)
                                        by_cases hj : j = (v1443 : Int32).toNatClampNeg
                                        · rw [hj]; exact xr1444_2.resolve_left (by omega)
                                        · have q := xr1444_1 j hj
                                          rw [q.1, q.2.1, q.2.2]
                                          refine (hq1358_1.resolve_left (by omega)) j h1 ?_
                                          have hj2 : j ≠ (v1443 : Int32).toInt.toNat := hj
                                          omega
                                      · exact Or.inl h0)) (show (((n1449 : Int32).toInt = 0 ∧ (n1450 : Int32).toInt = -1 ∧ Pf (fun j => sg ((fa 12 32) j).toInt) ((iv 12 33) : Int32).toInt ((iv 12 23) : Int32).toInt (fun i => if (n1445 (12 * (((iv 12 23) : Int32).toInt).toNat + i)).toInt = 0 then (w1357_a_12_27 (12 * (((iv 12 23) : Int32).toInt).toNat + i)).toInt else (n1445 (12 * (((iv 12 23) : Int32).toInt).toNat + i)).toInt + 4) (fun i => (n1446 (12 * (((iv 12 23) : Int32).toInt).toNat + i)).toInt) (fun i => (w1357_a_12_29 (12 * (((iv 12 23) : Int32).toInt).toNat + i)).toInt) (fun i j => if (j : Int) < (n1447 (12 * (((iv 12 23) : Int32).toInt).toNat + i)).toInt then (w1357_a_12_31 (8 * (12 * (((iv 12 23) : Int32).toInt).toNat + i) + j)).toInt else 0) ((v1453 : Int32).toInt).toNat (n1448 : Int32).toInt) ∨ ((n1449 : Int32).toInt ≠ 0 ∧ ∃ c : Nat, Out (fun j => sg ((fa 12 32) j).toInt) ((iv 12 33) : Int32).toInt ((iv 12 23) : Int32).toInt (n1449 : Int32).toInt (n1450 : Int32).toInt c (fun i => if (n1445 (12 * (((iv 12 23) : Int32).toInt).toNat + i)).toInt = 0 then (w1357_a_12_27 (12 * (((iv 12 23) : Int32).toInt).toNat + i)).toInt else (n1445 (12 * (((iv 12 23) : Int32).toInt).toNat + i)).toInt + 4) (fun i => (n1446 (12 * (((iv 12 23) : Int32).toInt).toNat + i)).toInt) (fun i => (w1357_a_12_29 (12 * (((iv 12 23) : Int32).toInt).toNat + i)).toInt) (fun i j => if (j : Int) < (n1447 (12 * (((iv 12 23) : Int32).toInt).toNat + i)).toInt then (w1357_a_12_31 (8 * (12 * (((iv 12 23) : Int32).toInt).toNat + i) + j)).toInt else 0))) from (by
                                      rcases hq1358_2 with ⟨yi1, yi2, yi3⟩ | ⟨yi1, -⟩
                                      · have yse := Sk_un (by omega) (Sk_id xr1362_1) xr1370_2
                                        have ysn : (n1363 : Int32).toInt < (iv 12 33).toInt := by omega
                                        have yrn := xr1370_3
                                        rw [← yse] at yrn
                                        have yg0 := ((cw_let xr1374_0).resolve_left (fun q => by omega)).2
                                        rw [xr1370_1, ← yse] at yg0
                                        have yg1 := ((cw_take xr1376_0).resolve_right (fun q => by omega)).2
                                        rw [xr1370_1, ← yse] at yg1
                                        have yk : kwK (fun j => sg (fa 12 32 j).toInt) (n1363 : Int32).toInt (n1371 : Int32).toInt = 1 := by unfold kwK; rw [if_neg yg0, if_pos yg1]
                                        have yc9 : ((((x1357_2 : Int32).toInt).toNat : Nat) : Int) = (x1357_2 : Int32).toInt := Int.toNat_of_nonneg (by omega)
                                        have yK : ((v1443 : Int32).toInt).toNat = (12 * ((iv 12 23).toInt).toNat + ((x1357_2 : Int32).toInt).toNat) := by omega
                                        have yp9 : Pf (fun j => sg (fa 12 32 j).toInt) (iv 12 33).toInt (iv 12 23).toInt (fun i => if (n1445 (12 * ((iv 12 23).toInt).toNat + i)).toInt = 0 then (w1357_a_12_27 (12 * ((iv 12 23).toInt).toNat + i)).toInt else (n1445 (12 * ((iv 12 23).toInt).toNat + i)).toInt + 4) (fun i => (n1446 (12 * ((iv 12 23).toInt).toNat + i)).toInt) (fun i => (w1357_a_12_29 (12 * ((iv 12 23).toInt).toNat + i)).toInt) (fun i j => if (j : Int) < (n1447 (12 * ((iv 12 23).toInt).toNat + i)).toInt then (w1357_a_12_31 (8 * (12 * ((iv 12 23).toInt).toNat + i) + j)).toInt else 0) ((x1357_2 : Int32).toInt).toNat (w1357_i_12_34 : Int32).toInt := by
                                          refine Pf_cg _ _ (fun i hi => ⟨?_, ?_, ?_, fun j hj => ?_⟩) yi3
                                          · show (if (w1357_a_12_26 (12 * ((iv 12 23).toInt).toNat + i)).toInt = 0 then (w1357_a_12_27 (12 * ((iv 12 23).toInt).toNat + i)).toInt else (w1357_a_12_26 (12 * ((iv 12 23).toInt).toNat + i)).toInt + 4) = (if (n1445 (12 * ((iv 12 23).toInt).toNat + i)).toInt = 0 then (w1357_a_12_27 (12 * ((iv 12 23).toInt).toNat + i)).toInt else (n1445 (12 * ((iv 12 23).toInt).toNat + i)).toInt + 4)
                                            rw [(xr1444_1 (12 * ((iv 12 23).toInt).toNat + i) (show (12 * ((iv 12 23).toInt).toNat + i) ≠ ((v1443 : Int32).toInt).toNat from by omega)).1, (xr1444_1 (12 * ((iv 12 23).toInt).toNat + i) (show (12 * ((iv 12 23).toInt).toNat + i) ≠ ((v1443 : Int32).toInt).toNat from by omega)).2.1]
                                          · exact congrArg Int32.toInt (xr1444_1 (12 * ((iv 12 23).toInt).toNat + i) (show (12 * ((iv 12 23).toInt).toNat + i) ≠ ((v1443 : Int32).toInt).toNat from by omega)).2.2.symm
                                          · exact congrArg Int32.toInt (xr1444_3 (12 * ((iv 12 23).toInt).toNat + i) (show (12 * ((iv 12 23).toInt).toNat + i) ≠ ((v1443 : Int32).toInt).toNat from by omega)).1.symm
                                          · show (if (j : Int) < (w1357_a_12_30 (12 * ((iv 12 23).toInt).toNat + i)).toInt then (w1357_a_12_31 (8 * (12 * ((iv 12 23).toInt).toNat + i) + j)).toInt else 0) = (if (j : Int) < (n1447 (12 * ((iv 12 23).toInt).toNat + i)).toInt then (w1357_a_12_31 (8 * (12 * ((iv 12 23).toInt).toNat + i) + j)).toInt else 0)
                                            rw [(xr1444_3 (12 * ((iv 12 23).toInt).toNat + i) (show (12 * ((iv 12 23).toInt).toNat + i) ≠ ((v1443 : Int32).toInt).toNat from by omega)).2, xr1444_4 (8 * (12 * ((iv 12 23).toInt).toNat + i) + j) (by omega)]
                                        rcases xr1444_6 with ⟨yr1, yb, ykd, yv1, yr2⟩ | ⟨yr1, yr2, yr3⟩
                                        · exact Or.inr ⟨by omega, _, _, _, yp9, xr1362_1, Or.inr ⟨ysn, by omega, yb, ykd, yv1, 0, (fun _ => 0), _, yrn, Or.inr (Or.inr (Or.inr (Or.inl ⟨yk, by omega, yr2⟩)))⟩⟩
                                        · have yx := xr1444_5
                                          rw [yK] at yr3 yx
                                          have ye : (if (n1445 (12 * ((iv 12 23).toInt).toNat + ((x1357_2 : Int32).toInt).toNat)).toInt = 0 then (w1357_a_12_27 (12 * ((iv 12 23).toInt).toNat + ((x1357_2 : Int32).toInt).toNat)).toInt else (n1445 (12 * ((iv 12 23).toInt).toNat + ((x1357_2 : Int32).toInt).toNat)).toInt + 4) = 5 := by
                                            rw [yx]; exact (if_neg (by decide)).trans (by decide)
                                          refine Or.inl ⟨by omega, by omega, ?_⟩
                                          rw [show ((v1453 : Int32).toInt).toNat = ((x1357_2 : Int32).toInt).toNat + 1 from by omega]
                                          refine Pf_S yp9 xr1362_1 ysn (p := 0) ?_
                                          rw [yc9]
                                          show ClR (fun j => sg (fa 12 32 j).toInt) (iv 12 33).toInt (iv 12 23).toInt (n1363 : Int32).toInt (x1357_2 : Int32).toInt 0 0 (n1448 : Int32).toInt (if (n1445 (12 * ((iv 12 23).toInt).toNat + ((x1357_2 : Int32).toInt).toNat)).toInt = 0 then (w1357_a_12_27 (12 * ((iv 12 23).toInt).toNat + ((x1357_2 : Int32).toInt).toNat)).toInt else (n1445 (12 * ((iv 12 23).toInt).toNat + ((x1357_2 : Int32).toInt).toNat)).toInt + 4) _ _ _
                                          rw [ye]
                                          exact ⟨_, yrn, Or.inr (Or.inr (Or.inr (Or.inl ⟨yk, by omega, yr3⟩)))⟩
                                      · exfalso; omega)) (show 0 ≤ (v1453 : Int32).toInt from by omega) (show ∀ j : Nat, (j : Int) < 12 * ((iv 12 23) : Int32).toInt → w1357_a_12_29 j = (fa 12 29) j ∧ n1447 j = (fa 12 30) j from (fun j h => have hj : j ≠ (v1443 : Int32).toNatClampNeg := (show j ≠ (v1443 : Int32).toInt.toNat from by omega); ⟨(xr1444_3 j hj).1.trans (hq1358_4 j h).1, (xr1444_3 j hj).2.trans (hq1358_4 j h).2⟩)) (show ∀ j : Nat, (j : Int) < 96 * ((iv 12 23) : Int32).toInt → w1357_a_12_31 j = (fa 12 31) j from (fun j h => (xr1444_4 j (by omega)).trans (hq1358_5 j h))) (show ((n1449 : Int32).toInt ≠ 0 ∨ ∀ j : Nat, 12 * ((iv 12 23) : Int32).toInt ≤ (j : Int) → (j : Int) < 12 * ((iv 12 23) : Int32).toInt + (v1453 : Int32).toInt → gk (n1445 j) (w1357_a_12_27 j)) from (by
                                      by_cases h0 : (n1449 : Int32).toInt = 0
                                      · refine Or.inr (fun j h1 h2 => ?_)
                                        by_cases hj : j = ((v1443 : Int32).toInt).toNat
                                        · have e5 : n1445 ((v1443 : Int32).toInt).toNat = 1 := xr1444_5
                                          rw [hj]; unfold gk; rw [e5]; exact Or.inr ⟨by decide, by decide⟩
                                        · have q := xr1444_1 j hj
                                          rw [q.1, q.2.1]
                                          exact (hq1358_6.resolve_left (by omega)) j h1 (by omega)
                                      · exact Or.inl h0)) (show ((n1449 : Int32).toInt ≠ 0 ∨ ∀ j : Nat, 12 * ((iv 12 23) : Int32).toInt ≤ (j : Int) → (j : Int) < 12 * ((iv 12 23) : Int32).toInt + (v1453 : Int32).toInt → (n1445 j).toInt = 2 → ∀ q : Nat, (q : Int) < (n1447 j).toInt → 97 ≤ (w1357_a_12_31 (8 * j + q)).toInt) from (by
                                      by_cases h0 : (n1449 : Int32).toInt = 0
                                      · refine Or.inr (fun j h1 h2 h3 q hq => ?_)
                                        by_cases hj : j = ((v1443 : Int32).toInt).toNat
                                        · have e5 : n1445 ((v1443 : Int32).toInt).toNat = 1 := xr1444_5
                                          rw [hj] at h3 hq ⊢
                                          exact absurd h3 (by rw [e5]; decide)
                                        · have y := xr1444_1 j hj
                                          have y3 := (xr1444_3 j hj).2
                                          have hb9 : 0 ≤ (n1447 j).toInt ∧ (n1447 j).toInt ≤ 8 := (hn1447 j)
                                          rw [y.1] at h3
                                          rw [xr1444_4 (8 * j + q) (by omega)]
                                          rw [y3] at hq
                                          exact (hq1358_7.resolve_left (by omega)) j h1 (by omega) h3 q hq
                                      · exact Or.inl h0)) (by omega) _ _ ls hP hD hS (lv_sub hl [0, 2, 3] rfl)
                            · skip
                              have fr1440 : ¬ ((w1357_i_12_35 : Int32).toInt = 0) := fr1440
                              exfalso; omega
                      · skip
                        have fr1433 : ¬ ((w1357_i_12_35 : Int32).toInt = 0) := fr1433
                        exfalso; omega
                · have fc1375 := z_ne (rfl : (r1374).toInt = _) (by decide : (0 : Int32).toInt = 0) c1375
                  refine lv_iconst (v := 0) hx hb dX12_rule_74 (by decide) ?_
                  refine lv_goto (tgt := 148) hx hb dX12_rule_75 (by decide) ?_
                  refine lv_istore_n (lv' := [(3, .int 0), (2, .int x1357_2), (0, .ref h), (1, .int a)]) hx hb dX12_rule_148 rfl hl (by decide) rfl (fun ls hl => ?_)
                  refine lv_aload_n hx hb dX12_rule_149 rfl (lv_at hl 2 rfl) ?_
                  refine lv_iload_n hx hb dX12_rule_150 rfl (lv_at hl 0 rfl) ?_
                  refine lv_if_lt (tgt := 158) hx hb dX12_rule_151 (by decide) (fun c1454 => ?_) (fun c1454 => ?_)
                  · exact absurd c1454 (by decide)
                  · skip
                    refine lv_iconst (v := 1) hx hb dX12_rule_154 (by decide) ?_
                    refine lv_goto (tgt := 159) hx hb dX12_rule_155 (by decide) ?_
                    refine lv_iconst (v := 1) hx hb dX12_rule_159 (by decide) ?_
                    refine lv_aload_n hx hb dX12_rule_160 rfl (lv_at hl 2 rfl) ?_
                    refine gM_12_37 hx hb ht hown hK hP m_1176 (v := n1372) rfl dX12_rule_161 ?_
                    refine vp_callSi (W.runV (As := [.int 1, .int 1, .int n1372]) (rest := []) ⟨hx, hb, hml, hown, ht⟩ (c_X12_want_1 l dC dI h g ca (u2 (u2 (u2 (u2 (u2 iv 12 34 n1371) 12 35 w1357_i_12_35) 12 36 w1357_i_12_36) 12 37 n1372) 12 38 n1373) lv (u2 (u2 (u2 (u2 (u2 (u2 fa 12 26 w1357_a_12_26) 12 28 w1357_a_12_28) 12 30 w1357_a_12_30) 12 29 w1357_a_12_29) 12 31 w1357_a_12_31) 12 27 w1357_a_12_27) la (IX_a (c := 12) (k := 27) (IX_a (c := 12) (k := 31) (IX_a (c := 12) (k := 29) (IX_a (c := 12) (k := 30) (IX_a (c := 12) (k := 28) (IX_a (c := 12) (k := 26) (IX_i (c := 12) (k := 38) (IX_i (c := 12) (k := 37) (IX_i (c := 12) (k := 36) (IX_i (c := 12) (k := 35) (IX_i (c := 12) (k := 34) hI (show inb (0, 200) n1371 from ⟨by omega, by omega⟩)) (show inb (0, 5) w1357_i_12_35 from ⟨by omega, by omega⟩)) (full_i _)) (show inb (0, 200) n1372 from ⟨by omega, by omega⟩)) (show inb (0, 200) n1373 from ⟨by omega, by omega⟩)) hw1357_a_12_26) hw1357_a_12_28) hw1357_a_12_30) hw1357_a_12_29) hw1357_a_12_31) hw1357_a_12_27) 1 n1372) (kV 3 ht m_1472 m_1474 m_50 m_89 m_1475 rfl rfl hd_X12_want_v ⟨Nat.le_of_ble_eq_true rfl, Nat.le_of_ble_eq_true rfl⟩) (vR hP hK (rM_12 hK hP)) rfl rfl hl.1 rfl (lv_room (Nat.le_of_ble_eq_true rfl)) dX12_rule_164 ⟨Nat.le_of_ble_eq_true rfl, Nat.le_of_ble_eq_true rfl⟩) (fun r1455 hr1455 => ?_)
                    rcases hr1455 with ⟨rfl, fr1455⟩ | ⟨rfl, fr1455⟩
                    · skip
                      have fr1455 : ((w1357_i_12_35 : Int32).toInt = 0) := fr1455
                      refine lv_if_eq (tgt := 210) hx hb dX12_rule_167 (by decide) (fun c1456 => ?_) (fun c1456 => ?_)
                      · exact absurd c1456 (by decide)
                      · skip
                        refine lv_aload_n hx hb dX12_rule_170 rfl (lv_at hl 2 rfl) ?_
                        refine lv_iload_n hx hb dX12_rule_171 rfl (lv_at hl 1 rfl) ?_
                        refine lv_bipush (v := 12) hx hb dX12_rule_172 (by decide) ?_
                        refine lv_icmp_ge (tgt := 181) hx hb dX12_rule_174 (by decide) (fun c1457 => ?_) (fun c1457 => ?_)
                        · have fc1457 := z_le (by decide : (12 : Int32).toInt = 12) (rfl : (x1357_2).toInt = _) c1457
                          refine lv_iconst (v := 0) hx hb dX12_rule_181 (by decide) ?_
                          refine lv_iconst (v := 5) hx hb dX12_rule_182 (by decide) ?_
                          refine lv_aload_n hx hb dX12_rule_183 rfl (lv_at hl 2 rfl) ?_
                          refine gM_12_37 hx hb ht hown hK hP m_1176 (v := n1372) rfl dX12_rule_184 ?_
                          have hFc := free_all hD hS hA
                          refine va_calli (va_runV (As := [.int 0, .int 5, .int n1372]) (rest := []) ⟨hx, hb, hml, hown, ht⟩ (c_X12_want_r0 l dC dI H.size h g ca (u2 (u2 (u2 (u2 (u2 iv 12 34 n1371) 12 35 w1357_i_12_35) 12 36 w1357_i_12_36) 12 37 n1372) 12 38 n1373) lv (u2 (u2 (u2 (u2 (u2 (u2 fa 12 26 w1357_a_12_26) 12 28 w1357_a_12_28) 12 30 w1357_a_12_30) 12 29 w1357_a_12_29) 12 31 w1357_a_12_31) 12 27 w1357_a_12_27) la (IX_a (c := 12) (k := 27) (IX_a (c := 12) (k := 31) (IX_a (c := 12) (k := 29) (IX_a (c := 12) (k := 30) (IX_a (c := 12) (k := 28) (IX_a (c := 12) (k := 26) (IX_i (c := 12) (k := 38) (IX_i (c := 12) (k := 37) (IX_i (c := 12) (k := 36) (IX_i (c := 12) (k := 35) (IX_i (c := 12) (k := 34) hI (show inb (0, 200) n1371 from ⟨by omega, by omega⟩)) (show inb (0, 5) w1357_i_12_35 from ⟨by omega, by omega⟩)) (full_i _)) (show inb (0, 200) n1372 from ⟨by omega, by omega⟩)) (show inb (0, 200) n1373 from ⟨by omega, by omega⟩)) hw1357_a_12_26) hw1357_a_12_28) hw1357_a_12_30) hw1357_a_12_29) hw1357_a_12_31) hw1357_a_12_27) 5 n1372 ⟨by decide, by decide⟩) (kV 3 ht m_1472 m_1474 m_50 m_89 m_1475 rfl rfl hd_X12_want_v ⟨Nat.le_of_ble_eq_true rfl, Nat.le_of_ble_eq_true rfl⟩) (vW hP hK hD (rM_12 hK hP)) rfl rfl hl.1 rfl (lv_room (Nat.le_of_ble_eq_true rfl)) dX12_rule_187 ⟨Nat.le_of_ble_eq_true rfl, Nat.le_of_ble_eq_true rfl⟩) hS (fun q _ h => hFc q h) hFc (fun r1458 u t H1 locs ht9 hvm hr1458 hB hz1 hk1 hS => ?_)
                          obtain ⟨n1459, n1460, hn1459, xr1458_0, xr1458_1, hr1458, rfl⟩ := hr1458
                          have hn1459 : 0 ≤ n1459.toInt ∧ n1459.toInt ≤ 5 := hn1459
                          obtain ⟨hP, hD⟩ := hB
                          rw [ht9] at hP
                          generalize H1 = H at hP hS ⊢
                          have hP : va_P (dC, dI) classes (WM h g ca (u2 (u2 (u2 (u2 (u2 iv 12 34 n1371) 12 35 n1459) 12 36 n1460) 12 37 n1372) 12 38 n1373) lv (u2 (u2 (u2 (u2 (u2 (u2 fa 12 26 w1357_a_12_26) 12 28 w1357_a_12_28) 12 30 w1357_a_12_30) 12 29 w1357_a_12_29) 12 31 w1357_a_12_31) 12 27 w1357_a_12_27) la) H := hP
                          have hD : va_D A (WM h g ca (u2 (u2 (u2 (u2 (u2 iv 12 34 n1371) 12 35 n1459) 12 36 n1460) 12 37 n1372) 12 38 n1373) lv (u2 (u2 (u2 (u2 (u2 (u2 fa 12 26 w1357_a_12_26) 12 28 w1357_a_12_28) 12 30 w1357_a_12_30) 12 29 w1357_a_12_29) 12 31 w1357_a_12_31) 12 27 w1357_a_12_27) la) := (show va_D _ (WM h g ca (u2 (u2 (u2 (u2 (u2 iv 12 34 n1371) 12 35 n1459) 12 36 n1460) 12 37 n1372) 12 38 n1373) lv (u2 (u2 (u2 (u2 (u2 (u2 fa 12 26 w1357_a_12_26) 12 28 w1357_a_12_28) 12 30 w1357_a_12_30) 12 29 w1357_a_12_29) 12 31 w1357_a_12_31) 12 27 w1357_a_12_27) la) from hD).weaken (fun _ _ _ h => hFc _ h)
                          have xr1458_0 : 1 ≤ (n1459 : Int32).toInt := xr1458_0
                          have : (5 : Int32).toInt = 5 := (by decide)
                          have xr1458_1 : (((w1357_i_12_35 : Int32).toInt = 0 ∧ (n1459 : Int32).toInt = (5 : Int32).toInt ∧ (n1460 : Int32).toInt = (n1372 : Int32).toInt) ∨ ((w1357_i_12_35 : Int32).toInt ≠ 0 ∧ (n1459 : Int32).toInt = (w1357_i_12_35 : Int32).toInt ∧ (n1460 : Int32).toInt = (w1357_i_12_36 : Int32).toInt)) := xr1458_1
                          obtain rfl : 0 = r1458 := hr1458.symm
                          refine lv_if_eq (tgt := 210) hx hb dX12_rule_190 (by decide) (fun c1461 => ?_) (fun c1461 => ?_)
                          · skip
                            refine lv_goto (tgt := 39) hx hb dX12_rule_210 (by decide) ?_
                            exact ih1358 x1357_2 n1371 n1459 n1460 n1372 n1373 w1357_a_12_26 w1357_a_12_28 w1357_a_12_30 w1357_a_12_29 w1357_a_12_31 w1357_a_12_27 ⟨by omega, by omega⟩ ⟨by omega, by omega⟩ ⟨by omega, by omega⟩ ⟨by omega, by omega⟩ ⟨by omega, by omega⟩ hw1357_a_12_26 hw1357_a_12_28 hw1357_a_12_30 hw1357_a_12_29 hw1357_a_12_31 hw1357_a_12_27 (show ∀ j : Nat, (j : Int) < 12 * ((iv 12 23) : Int32).toInt → w1357_a_12_26 j = (fa 12 26) j ∧ w1357_a_12_27 j = (fa 12 27) j ∧ w1357_a_12_28 j = (fa 12 28) j from hq1358_0) (show ((n1459 : Int32).toInt ≠ 0 ∨ ∀ j : Nat, 12 * ((iv 12 23) : Int32).toInt ≤ (j : Int) → (j : Int) < 12 * ((iv 12 23) : Int32).toInt + (x1357_2 : Int32).toInt → gd3 (w1357_a_12_26 j) (w1357_a_12_27 j) (w1357_a_12_28 j)) from Or.inl (by omega)) (show (((n1459 : Int32).toInt = 0 ∧ (n1460 : Int32).toInt = -1 ∧ Pf (fun j => sg ((fa 12 32) j).toInt) ((iv 12 33) : Int32).toInt ((iv 12 23) : Int32).toInt (fun i => if (w1357_a_12_26 (12 * (((iv 12 23) : Int32).toInt).toNat + i)).toInt = 0 then (w1357_a_12_27 (12 * (((iv 12 23) : Int32).toInt).toNat + i)).toInt else (w1357_a_12_26 (12 * (((iv 12 23) : Int32).toInt).toNat + i)).toInt + 4) (fun i => (w1357_a_12_28 (12 * (((iv 12 23) : Int32).toInt).toNat + i)).toInt) (fun i => (w1357_a_12_29 (12 * (((iv 12 23) : Int32).toInt).toNat + i)).toInt) (fun i j => if (j : Int) < (w1357_a_12_30 (12 * (((iv 12 23) : Int32).toInt).toNat + i)).toInt then (w1357_a_12_31 (8 * (12 * (((iv 12 23) : Int32).toInt).toNat + i) + j)).toInt else 0) ((x1357_2 : Int32).toInt).toNat (n1371 : Int32).toInt) ∨ ((n1459 : Int32).toInt ≠ 0 ∧ ∃ c : Nat, Out (fun j => sg ((fa 12 32) j).toInt) ((iv 12 33) : Int32).toInt ((iv 12 23) : Int32).toInt (n1459 : Int32).toInt (n1460 : Int32).toInt c (fun i => if (w1357_a_12_26 (12 * (((iv 12 23) : Int32).toInt).toNat + i)).toInt = 0 then (w1357_a_12_27 (12 * (((iv 12 23) : Int32).toInt).toNat + i)).toInt else (w1357_a_12_26 (12 * (((iv 12 23) : Int32).toInt).toNat + i)).toInt + 4) (fun i => (w1357_a_12_28 (12 * (((iv 12 23) : Int32).toInt).toNat + i)).toInt) (fun i => (w1357_a_12_29 (12 * (((iv 12 23) : Int32).toInt).toNat + i)).toInt) (fun i j => if (j : Int) < (w1357_a_12_30 (12 * (((iv 12 23) : Int32).toInt).toNat + i)).toInt then (w1357_a_12_31 (8 * (12 * (((iv 12 23) : Int32).toInt).toNat + i) + j)).toInt else 0))) from (by
                                  rcases hq1358_2 with ⟨yi1, yi2, yi3⟩ | ⟨yi1, -⟩
                                  · have yse := Sk_un (by omega) (Sk_id xr1362_1) xr1370_2
                                    have ysn : (n1363 : Int32).toInt < (iv 12 33).toInt := by omega
                                    have yrn := xr1370_3
                                    rw [← yse] at yrn
                                    have yg0 := ((cw_let xr1374_0).resolve_right (fun q => by omega)).2
                                    rw [xr1370_1, ← yse] at yg0
                                    have yk : kwK (fun j => sg (fa 12 32 j).toInt) (n1363 : Int32).toInt (n1371 : Int32).toInt = 0 := by unfold kwK; rw [if_pos yg0]
                                    have yc9 : ((((x1357_2 : Int32).toInt).toNat : Nat) : Int) = (x1357_2 : Int32).toInt := Int.toNat_of_nonneg (by omega)
                                    exact Or.inr ⟨by omega, _, _, _, yi3, xr1362_1, Or.inr ⟨ysn, by omega, 0, 0, 0, 0, (fun _ => 0), _, yrn, Or.inr (Or.inl ⟨by omega, by omega, by omega, by omega⟩)⟩⟩
                                  · exfalso; omega)) (show 0 ≤ (x1357_2 : Int32).toInt from by omega) (show ∀ j : Nat, (j : Int) < 12 * ((iv 12 23) : Int32).toInt → w1357_a_12_29 j = (fa 12 29) j ∧ w1357_a_12_30 j = (fa 12 30) j from hq1358_4) (show ∀ j : Nat, (j : Int) < 96 * ((iv 12 23) : Int32).toInt → w1357_a_12_31 j = (fa 12 31) j from hq1358_5) (show ((n1459 : Int32).toInt ≠ 0 ∨ ∀ j : Nat, 12 * ((iv 12 23) : Int32).toInt ≤ (j : Int) → (j : Int) < 12 * ((iv 12 23) : Int32).toInt + (x1357_2 : Int32).toInt → gk (w1357_a_12_26 j) (w1357_a_12_27 j)) from Or.inl (by omega)) (show ((n1459 : Int32).toInt ≠ 0 ∨ ∀ j : Nat, 12 * ((iv 12 23) : Int32).toInt ≤ (j : Int) → (j : Int) < 12 * ((iv 12 23) : Int32).toInt + (x1357_2 : Int32).toInt → (w1357_a_12_26 j).toInt = 2 → ∀ q : Nat, (q : Int) < (w1357_a_12_30 j).toInt → 97 ≤ (w1357_a_12_31 (8 * j + q)).toInt) from Or.inl (by omega)) (by omega) _ _ ls hP hD hS (lv_sub hl [1, 2, 3] rfl)
                          · exact absurd rfl c1461
                        · have fc1457 := z_nle (by decide : (12 : Int32).toInt = 12) (rfl : (x1357_2).toInt = _) c1457
                          refine lv_iconst (v := 1) hx hb dX12_rule_177 (by decide) ?_
                          refine lv_goto (tgt := 182) hx hb dX12_rule_178 (by decide) ?_
                          refine lv_iconst (v := 5) hx hb dX12_rule_182 (by decide) ?_
                          refine lv_aload_n hx hb dX12_rule_183 rfl (lv_at hl 2 rfl) ?_
                          refine gM_12_37 hx hb ht hown hK hP m_1176 (v := n1372) rfl dX12_rule_184 ?_
                          refine vp_callSi (W.runV (As := [.int 1, .int 5, .int n1372]) (rest := []) ⟨hx, hb, hml, hown, ht⟩ (c_X12_want_1 l dC dI h g ca (u2 (u2 (u2 (u2 (u2 iv 12 34 n1371) 12 35 w1357_i_12_35) 12 36 w1357_i_12_36) 12 37 n1372) 12 38 n1373) lv (u2 (u2 (u2 (u2 (u2 (u2 fa 12 26 w1357_a_12_26) 12 28 w1357_a_12_28) 12 30 w1357_a_12_30) 12 29 w1357_a_12_29) 12 31 w1357_a_12_31) 12 27 w1357_a_12_27) la (IX_a (c := 12) (k := 27) (IX_a (c := 12) (k := 31) (IX_a (c := 12) (k := 29) (IX_a (c := 12) (k := 30) (IX_a (c := 12) (k := 28) (IX_a (c := 12) (k := 26) (IX_i (c := 12) (k := 38) (IX_i (c := 12) (k := 37) (IX_i (c := 12) (k := 36) (IX_i (c := 12) (k := 35) (IX_i (c := 12) (k := 34) hI (show inb (0, 200) n1371 from ⟨by omega, by omega⟩)) (show inb (0, 5) w1357_i_12_35 from ⟨by omega, by omega⟩)) (full_i _)) (show inb (0, 200) n1372 from ⟨by omega, by omega⟩)) (show inb (0, 200) n1373 from ⟨by omega, by omega⟩)) hw1357_a_12_26) hw1357_a_12_28) hw1357_a_12_30) hw1357_a_12_29) hw1357_a_12_31) hw1357_a_12_27) 5 n1372) (kV 3 ht m_1472 m_1474 m_50 m_89 m_1475 rfl rfl hd_X12_want_v ⟨Nat.le_of_ble_eq_true rfl, Nat.le_of_ble_eq_true rfl⟩) (vR hP hK (rM_12 hK hP)) rfl rfl hl.1 rfl (lv_room (Nat.le_of_ble_eq_true rfl)) dX12_rule_187 ⟨Nat.le_of_ble_eq_true rfl, Nat.le_of_ble_eq_true rfl⟩) (fun r1462 hr1462 => ?_)
                          rcases hr1462 with ⟨rfl, fr1462⟩ | ⟨rfl, fr1462⟩
                          · skip
                            have fr1462 : ((w1357_i_12_35 : Int32).toInt = 0) := fr1462
                            refine lv_if_eq (tgt := 210) hx hb dX12_rule_190 (by decide) (fun c1463 => ?_) (fun c1463 => ?_)
                            · exact absurd c1463 (by decide)
                            · skip
                              refine lv_aload_n hx hb dX12_rule_193 rfl (lv_at hl 2 rfl) ?_
                              refine lv_iload_n hx hb dX12_rule_194 rfl (lv_at hl 0 rfl) ?_
                              refine lv_bipush (v := 12) hx hb dX12_rule_195 (by decide) ?_
                              refine lv_aload_n hx hb dX12_rule_197 rfl (lv_at hl 2 rfl) ?_
                              refine gM_12_23 hx hb ht hown hK hP m_1162 (v := (iv 12 23)) rfl dX12_rule_198 ?_
                              refine lv_imul hx hb dX12_rule_201 ?_
                              refine lv_topi (fun v1464 ev1464 => ?_)
                              have tv1464 := z_mul ev1464 (by decide : (12 : Int32).toInt = 12) (rfl : ((iv 12 23)).toInt = _) (by omega) (by omega)
                              refine lv_iload_n hx hb dX12_rule_202 rfl (lv_at hl 1 rfl) ?_
                              refine lv_iadd hx hb dX12_rule_203 ?_
                              refine lv_topi (fun v1465 ev1465 => ?_)
                              have tv1465 := z_add ev1465 (rfl : (v1464).toInt = _) (rfl : (x1357_2).toInt = _) (by omega) (by omega)
                              have hFc := free_all hD hS hA
                              refine va_callv (va_runV (As := [.int 0, .int v1465]) (rest := []) ⟨hx, hb, hml, hown, ht⟩ (c_X12_readClause_r0 l dC dI H.size h g ca (u2 (u2 (u2 (u2 (u2 iv 12 34 n1371) 12 35 w1357_i_12_35) 12 36 w1357_i_12_36) 12 37 n1372) 12 38 n1373) lv (u2 (u2 (u2 (u2 (u2 (u2 fa 12 26 w1357_a_12_26) 12 28 w1357_a_12_28) 12 30 w1357_a_12_30) 12 29 w1357_a_12_29) 12 31 w1357_a_12_31) 12 27 w1357_a_12_27) la (IX_a (c := 12) (k := 27) (IX_a (c := 12) (k := 31) (IX_a (c := 12) (k := 29) (IX_a (c := 12) (k := 30) (IX_a (c := 12) (k := 28) (IX_a (c := 12) (k := 26) (IX_i (c := 12) (k := 38) (IX_i (c := 12) (k := 37) (IX_i (c := 12) (k := 36) (IX_i (c := 12) (k := 35) (IX_i (c := 12) (k := 34) hI (show inb (0, 200) n1371 from ⟨by omega, by omega⟩)) (show inb (0, 5) w1357_i_12_35 from ⟨by omega, by omega⟩)) (full_i _)) (show inb (0, 200) n1372 from ⟨by omega, by omega⟩)) (show inb (0, 200) n1373 from ⟨by omega, by omega⟩)) hw1357_a_12_26) hw1357_a_12_28) hw1357_a_12_30) hw1357_a_12_29) hw1357_a_12_31) hw1357_a_12_27) v1465 (show 0 ≤ (w1357_i_12_35 : Int32).toInt ∧ (w1357_i_12_35 : Int32).toInt ≤ 0 from ⟨by omega, by omega⟩) ⟨by omega, by omega⟩ hJT) (kV 2 ht m_1476 m_1478 m_51 m_89 m_1479 rfl rfl hd_X12_readClause_v ⟨Nat.le_of_ble_eq_true rfl, Nat.le_of_ble_eq_true rfl⟩) (vW hP hK hD (rM_12 hK hP)) rfl rfl hl.1 rfl (lv_room (Nat.le_of_ble_eq_true rfl)) dX12_rule_204 ⟨Nat.le_of_ble_eq_true rfl, Nat.le_of_ble_eq_true rfl⟩) hS (fun q _ h => hFc q h) hFc (fun u t H1 locs ht9 hvm hr1466 hB hz1 hk1 hS => ?_)
                              obtain ⟨n1467, n1468, n1469, n1470, n1471, n1472, n1473, n1474, n1475, hn1470, hn1471, hn1472, hn1474, hn1475, xr1466_0, xr1466_1, xr1466_2, xr1466_3, xr1466_4, xr1466_5, xr1466_6, rfl⟩ := hr1466
                              have hn1467 : ∀ j, inb (bA 12 26 j) (n1467 j) := fun j => full_i _
                              have hn1468 : ∀ j, inb (bA 12 27 j) (n1468 j) := fun j => full_i _
                              have hn1469 : ∀ j, inb (bA 12 28 j) (n1469 j) := fun j => full_i _
                              have hn1471 : 0 ≤ n1471.toInt ∧ n1471.toInt ≤ 200 := hn1471
                              have hn1472 : 0 ≤ n1472.toInt ∧ n1472.toInt ≤ 5 := hn1472
                              have hn1474 : 0 ≤ n1474.toInt ∧ n1474.toInt ≤ 200 := hn1474
                              have hn1475 : 0 ≤ n1475.toInt ∧ n1475.toInt ≤ 200 := hn1475
                              obtain ⟨hP, hD⟩ := hB
                              rw [ht9] at hP
                              generalize H1 = H at hP hS ⊢
                              have hP : va_P (dC, dI) classes (WM h g ca (u2 (u2 (u2 (u2 (u2 iv 12 34 n1471) 12 35 n1472) 12 36 n1473) 12 37 n1474) 12 38 n1475) lv (u2 (u2 (u2 (u2 (u2 (u2 fa 12 26 n1467) 12 28 n1469) 12 30 n1470) 12 29 w1357_a_12_29) 12 31 w1357_a_12_31) 12 27 n1468) la) H := hP
                              have hD : va_D A (WM h g ca (u2 (u2 (u2 (u2 (u2 iv 12 34 n1471) 12 35 n1472) 12 36 n1473) 12 37 n1474) 12 38 n1475) lv (u2 (u2 (u2 (u2 (u2 (u2 fa 12 26 n1467) 12 28 n1469) 12 30 n1470) 12 29 w1357_a_12_29) 12 31 w1357_a_12_31) 12 27 n1468) la) := (show va_D _ (WM h g ca (u2 (u2 (u2 (u2 (u2 iv 12 34 n1471) 12 35 n1472) 12 36 n1473) 12 37 n1474) 12 38 n1475) lv (u2 (u2 (u2 (u2 (u2 (u2 fa 12 26 n1467) 12 28 n1469) 12 30 n1470) 12 29 w1357_a_12_29) 12 31 w1357_a_12_31) 12 27 n1468) la) from hD).weaken (fun _ _ _ h => hFc _ h)
                              have xr1466_0 : (n1371 : Int32).toInt ≤ (n1471 : Int32).toInt := xr1466_0
                              have xr1466_1 : ∀ j : Nat, j ≠ (v1465 : Int32).toNatClampNeg → n1467 j = w1357_a_12_26 j ∧ n1468 j = w1357_a_12_27 j ∧ n1469 j = w1357_a_12_28 j := xr1466_1
                              have xr1466_2 : ((n1472 : Int32).toInt ≠ 0 ∨ gd3 (n1467 (v1465 : Int32).toNatClampNeg) (n1468 (v1465 : Int32).toNatClampNeg) (n1469 (v1465 : Int32).toNatClampNeg)) := xr1466_2
                              have xr1466_3 : ∀ j : Nat, j ≠ (v1465 : Int32).toNatClampNeg → w1357_a_12_29 j = w1357_a_12_29 j ∧ n1470 j = w1357_a_12_30 j := xr1466_3
                              have xr1466_4 : ∀ j : Nat, (j : Int) < 8 * (v1465 : Int32).toInt → w1357_a_12_31 j = w1357_a_12_31 j := xr1466_4
                              have xr1466_5 : n1467 ((v1465 : Int32).toInt).toNat = 0 := xr1466_5
                              have xr1466_6 : (((n1472 : Int32).toInt ≠ 0 ∧ ∃ b kd v1 : Int, LetR (fun j => sg ((fa 12 32) j).toInt) ((iv 12 33) : Int32).toInt (n1371 : Int32).toInt (n1472 : Int32).toInt (n1473 : Int32).toInt b kd v1) ∨ ((n1472 : Int32).toInt = 0 ∧ (n1473 : Int32).toInt = (w1357_i_12_36 : Int32).toInt ∧ LetR (fun j => sg ((fa 12 32) j).toInt) ((iv 12 33) : Int32).toInt (n1371 : Int32).toInt 0 0 (n1471 : Int32).toInt (n1468 ((v1465 : Int32).toInt).toNat).toInt (n1469 ((v1465 : Int32).toInt).toNat).toInt)) := xr1466_6
                              obtain ⟨v1476, ev1476⟩ : ∃ y : Int32, y = x1357_2 + 1 := ⟨_, rfl⟩
                              have tv1476 := z_add ev1476 rfl (by decide : (1 : Int32).toInt = 1) (by omega) (by omega)
                              refine lv_iinc (v := v1476) (lv' := [(2, .int v1476), (3, .int 0), (0, .ref h), (1, .int a)]) hx hb dX12_rule_207 hl (k := 1) rfl (by rw [ev1476]; rfl) (by decide) rfl (fun ls hl => ?_)
                              refine lv_goto (tgt := 39) hx hb dX12_rule_210 (by decide) ?_
                              exact ih1358 v1476 n1471 n1472 n1473 n1474 n1475 n1467 n1469 n1470 w1357_a_12_29 w1357_a_12_31 n1468 ⟨by omega, by omega⟩ ⟨by omega, by omega⟩ ⟨by omega, by omega⟩ ⟨by omega, by omega⟩ ⟨by omega, by omega⟩ hn1467 hn1469 hn1470 hw1357_a_12_29 hw1357_a_12_31 hn1468 (show ∀ j : Nat, (j : Int) < 12 * ((iv 12 23) : Int32).toInt → n1467 j = (fa 12 26) j ∧ n1468 j = (fa 12 27) j ∧ n1469 j = (fa 12 28) j from (fun j h => have hj : j ≠ (v1465 : Int32).toNatClampNeg := (show j ≠ (v1465 : Int32).toInt.toNat from by omega); ⟨(xr1466_1 j hj).1.trans (hq1358_0 j h).1, (xr1466_1 j hj).2.1.trans (hq1358_0 j h).2.1, (xr1466_1 j hj).2.2.trans (hq1358_0 j h).2.2⟩)) (show ((n1472 : Int32).toInt ≠ 0 ∨ ∀ j : Nat, 12 * ((iv 12 23) : Int32).toInt ≤ (j : Int) → (j : Int) < 12 * ((iv 12 23) : Int32).toInt + (v1476 : Int32).toInt → gd3 (n1467 j) (n1468 j) (n1469 j)) from (by
                                    by_cases h0 : (n1472 : Int32).toInt = 0
                                    · refine Or.inr (fun j h1 h2 => ?_)
                                      by_cases hj : j = (v1465 : Int32).toNatClampNeg
                                      · rw [hj]; exact xr1466_2.resolve_left (by omega)
                                      · have q := xr1466_1 j hj
                                        rw [q.1, q.2.1, q.2.2]
                                        refine (hq1358_1.resolve_left (by omega)) j h1 ?_
                                        have hj2 : j ≠ (v1465 : Int32).toInt.toNat := hj
                                        omega
                                    · exact Or.inl h0)) (show (((n1472 : Int32).toInt = 0 ∧ (n1473 : Int32).toInt = -1 ∧ Pf (fun j => sg ((fa 12 32) j).toInt) ((iv 12 33) : Int32).toInt ((iv 12 23) : Int32).toInt (fun i => if (n1467 (12 * (((iv 12 23) : Int32).toInt).toNat + i)).toInt = 0 then (n1468 (12 * (((iv 12 23) : Int32).toInt).toNat + i)).toInt else (n1467 (12 * (((iv 12 23) : Int32).toInt).toNat + i)).toInt + 4) (fun i => (n1469 (12 * (((iv 12 23) : Int32).toInt).toNat + i)).toInt) (fun i => (w1357_a_12_29 (12 * (((iv 12 23) : Int32).toInt).toNat + i)).toInt) (fun i j => if (j : Int) < (n1470 (12 * (((iv 12 23) : Int32).toInt).toNat + i)).toInt then (w1357_a_12_31 (8 * (12 * (((iv 12 23) : Int32).toInt).toNat + i) + j)).toInt else 0) ((v1476 : Int32).toInt).toNat (n1471 : Int32).toInt) ∨ ((n1472 : Int32).toInt ≠ 0 ∧ ∃ c : Nat, Out (fun j => sg ((fa 12 32) j).toInt) ((iv 12 33) : Int32).toInt ((iv 12 23) : Int32).toInt (n1472 : Int32).toInt (n1473 : Int32).toInt c (fun i => if (n1467 (12 * (((iv 12 23) : Int32).toInt).toNat + i)).toInt = 0 then (n1468 (12 * (((iv 12 23) : Int32).toInt).toNat + i)).toInt else (n1467 (12 * (((iv 12 23) : Int32).toInt).toNat + i)).toInt + 4) (fun i => (n1469 (12 * (((iv 12 23) : Int32).toInt).toNat + i)).toInt) (fun i => (w1357_a_12_29 (12 * (((iv 12 23) : Int32).toInt).toNat + i)).toInt) (fun i j => if (j : Int) < (n1470 (12 * (((iv 12 23) : Int32).toInt).toNat + i)).toInt then (w1357_a_12_31 (8 * (12 * (((iv 12 23) : Int32).toInt).toNat + i) + j)).toInt else 0))) from (by
                                    rcases hq1358_2 with ⟨yi1, yi2, yi3⟩ | ⟨yi1, -⟩
                                    · have yse := Sk_un (by omega) (Sk_id xr1362_1) xr1370_2
                                      have ysn : (n1363 : Int32).toInt < (iv 12 33).toInt := by omega
                                      have yrn := xr1370_3
                                      rw [← yse] at yrn
                                      have yg0 := ((cw_let xr1374_0).resolve_right (fun q => by omega)).2
                                      rw [xr1370_1, ← yse] at yg0
                                      have yk : kwK (fun j => sg (fa 12 32 j).toInt) (n1363 : Int32).toInt (n1371 : Int32).toInt = 0 := by unfold kwK; rw [if_pos yg0]
                                      have yc9 : ((((x1357_2 : Int32).toInt).toNat : Nat) : Int) = (x1357_2 : Int32).toInt := Int.toNat_of_nonneg (by omega)
                                      have yK : ((v1465 : Int32).toInt).toNat = (12 * ((iv 12 23).toInt).toNat + ((x1357_2 : Int32).toInt).toNat) := by omega
                                      have yp9 : Pf (fun j => sg (fa 12 32 j).toInt) (iv 12 33).toInt (iv 12 23).toInt (fun i => if (n1467 (12 * ((iv 12 23).toInt).toNat + i)).toInt = 0 then (n1468 (12 * ((iv 12 23).toInt).toNat + i)).toInt else (n1467 (12 * ((iv 12 23).toInt).toNat + i)).toInt + 4) (fun i => (n1469 (12 * ((iv 12 23).toInt).toNat + i)).toInt) (fun i => (w1357_a_12_29 (12 * ((iv 12 23).toInt).toNat + i)).toInt) (fun i j => if (j : Int) < (n1470 (12 * ((iv 12 23).toInt).toNat + i)).toInt then (w1357_a_12_31 (8 * (12 * ((iv 12 23).toInt).toNat + i) + j)).toInt else 0) ((x1357_2 : Int32).toInt).toNat (w1357_i_12_34 : Int32).toInt := by
                                        refine Pf_cg _ _ (fun i hi => ⟨?_, ?_, ?_, fun j hj => ?_⟩) yi3
                                        · show (if (w1357_a_12_26 (12 * ((iv 12 23).toInt).toNat + i)).toInt = 0 then (w1357_a_12_27 (12 * ((iv 12 23).toInt).toNat + i)).toInt else (w1357_a_12_26 (12 * ((iv 12 23).toInt).toNat + i)).toInt + 4) = (if (n1467 (12 * ((iv 12 23).toInt).toNat + i)).toInt = 0 then (n1468 (12 * ((iv 12 23).toInt).toNat + i)).toInt else (n1467 (12 * ((iv 12 23).toInt).toNat + i)).toInt + 4)
                                          rw [(xr1466_1 (12 * ((iv 12 23).toInt).toNat + i) (show (12 * ((iv 12 23).toInt).toNat + i) ≠ ((v1465 : Int32).toInt).toNat from by omega)).1, (xr1466_1 (12 * ((iv 12 23).toInt).toNat + i) (show (12 * ((iv 12 23).toInt).toNat + i) ≠ ((v1465 : Int32).toInt).toNat from by omega)).2.1]
                                        · exact congrArg Int32.toInt (xr1466_1 (12 * ((iv 12 23).toInt).toNat + i) (show (12 * ((iv 12 23).toInt).toNat + i) ≠ ((v1465 : Int32).toInt).toNat from by omega)).2.2.symm
                                        · exact congrArg Int32.toInt (xr1466_3 (12 * ((iv 12 23).toInt).toNat + i) (show (12 * ((iv 12 23).toInt).toNat + i) ≠ ((v1465 : Int32).toInt).toNat from by omega)).1.symm
                                        · show (if (j : Int) < (w1357_a_12_30 (12 * ((iv 12 23).toInt).toNat + i)).toInt then (w1357_a_12_31 (8 * (12 * ((iv 12 23).toInt).toNat + i) + j)).toInt else 0) = (if (j : Int) < (n1470 (12 * ((iv 12 23).toInt).toNat + i)).toInt then (w1357_a_12_31 (8 * (12 * ((iv 12 23).toInt).toNat + i) + j)).toInt else 0)
                                          rw [(xr1466_3 (12 * ((iv 12 23).toInt).toNat + i) (show (12 * ((iv 12 23).toInt).toNat + i) ≠ ((v1465 : Int32).toInt).toNat from by omega)).2, xr1466_4 (8 * (12 * ((iv 12 23).toInt).toNat + i) + j) (by omega)]
                                      rcases xr1466_6 with ⟨yr1, yb, ykd, yv1, yr2⟩ | ⟨yr1, yr2, yr3⟩
                                      · exact Or.inr ⟨by omega, _, _, _, yp9, xr1362_1, Or.inr ⟨ysn, by omega, yb, ykd, yv1, 0, (fun _ => 0), _, yrn, Or.inr (Or.inr (Or.inl ⟨yk, by omega, yr2⟩))⟩⟩
                                      · have yx := xr1466_5
                                        rw [yK] at yr3 yx
                                        have ye : (if (n1467 (12 * ((iv 12 23).toInt).toNat + ((x1357_2 : Int32).toInt).toNat)).toInt = 0 then (n1468 (12 * ((iv 12 23).toInt).toNat + ((x1357_2 : Int32).toInt).toNat)).toInt else (n1467 (12 * ((iv 12 23).toInt).toNat + ((x1357_2 : Int32).toInt).toNat)).toInt + 4) = (n1468 (12 * ((iv 12 23).toInt).toNat + ((x1357_2 : Int32).toInt).toNat)).toInt := by
                                          rw [yx]; exact if_pos (by decide)
                                        refine Or.inl ⟨by omega, by omega, ?_⟩
                                        rw [show ((v1476 : Int32).toInt).toNat = ((x1357_2 : Int32).toInt).toNat + 1 from by omega]
                                        refine Pf_S yp9 xr1362_1 ysn (p := 0) ?_
                                        rw [yc9]
                                        show ClR (fun j => sg (fa 12 32 j).toInt) (iv 12 33).toInt (iv 12 23).toInt (n1363 : Int32).toInt (x1357_2 : Int32).toInt 0 0 (n1471 : Int32).toInt (if (n1467 (12 * ((iv 12 23).toInt).toNat + ((x1357_2 : Int32).toInt).toNat)).toInt = 0 then (n1468 (12 * ((iv 12 23).toInt).toNat + ((x1357_2 : Int32).toInt).toNat)).toInt else (n1467 (12 * ((iv 12 23).toInt).toNat + ((x1357_2 : Int32).toInt).toNat)).toInt + 4) _ _ _
                                        rw [ye]
                                        exact ⟨_, yrn, Or.inr (Or.inr (Or.inl ⟨yk, by omega, yr3⟩))⟩
                                    · exfalso; omega)) (show 0 ≤ (v1476 : Int32).toInt from by omega) (show ∀ j : Nat, (j : Int) < 12 * ((iv 12 23) : Int32).toInt → w1357_a_12_29 j = (fa 12 29) j ∧ n1470 j = (fa 12 30) j from (fun j h => have hj : j ≠ (v1465 : Int32).toNatClampNeg := (show j ≠ (v1465 : Int32).toInt.toNat from by omega); ⟨(xr1466_3 j hj).1.trans (hq1358_4 j h).1, (xr1466_3 j hj).2.trans (hq1358_4 j h).2⟩)) (show ∀ j : Nat, (j : Int) < 96 * ((iv 12 23) : Int32).toInt → w1357_a_12_31 j = (fa 12 31) j from (fun j h => (xr1466_4 j (by omega)).trans (hq1358_5 j h))) (show ((n1472 : Int32).toInt ≠ 0 ∨ ∀ j : Nat, 12 * ((iv 12 23) : Int32).toInt ≤ (j : Int) → (j : Int) < 12 * ((iv 12 23) : Int32).toInt + (v1476 : Int32).toInt → gk (n1467 j) (n1468 j)) from (by
                                    by_cases h0 : (n1472 : Int32).toInt = 0
                                    · refine Or.inr (fun j h1 h2 => ?_)
                                      by_cases hj : j = ((v1465 : Int32).toInt).toNat
                                      · have e5 : n1467 ((v1465 : Int32).toInt).toNat = 0 := xr1466_5
                                        rw [hj]; unfold gk; rw [e5]; exact Or.inl ⟨by decide, (LetR_g (xr1466_6.resolve_left (fun z => by omega)).2.2).1, (LetR_g (xr1466_6.resolve_left (fun z => by omega)).2.2).2.1⟩
                                      · have q := xr1466_1 j hj
                                        rw [q.1, q.2.1]
                                        exact (hq1358_6.resolve_left (by omega)) j h1 (by omega)
                                    · exact Or.inl h0)) (show ((n1472 : Int32).toInt ≠ 0 ∨ ∀ j : Nat, 12 * ((iv 12 23) : Int32).toInt ≤ (j : Int) → (j : Int) < 12 * ((iv 12 23) : Int32).toInt + (v1476 : Int32).toInt → (n1467 j).toInt = 2 → ∀ q : Nat, (q : Int) < (n1470 j).toInt → 97 ≤ (w1357_a_12_31 (8 * j + q)).toInt) from (by
                                    by_cases h0 : (n1472 : Int32).toInt = 0
                                    · refine Or.inr (fun j h1 h2 h3 q hq => ?_)
                                      by_cases hj : j = ((v1465 : Int32).toInt).toNat
                                      · have e5 : n1467 ((v1465 : Int32).toInt).toNat = 0 := xr1466_5
                                        rw [hj] at h3 hq ⊢
                                        exact absurd h3 (by rw [e5]; decide)
                                      · have y := xr1466_1 j hj
                                        have y3 := (xr1466_3 j hj).2
                                        have hb9 : 0 ≤ (n1470 j).toInt ∧ (n1470 j).toInt ≤ 8 := (hn1470 j)
                                        rw [y.1] at h3
                                        rw [xr1466_4 (8 * j + q) (by omega)]
                                        rw [y3] at hq
                                        exact (hq1358_7.resolve_left (by omega)) j h1 (by omega) h3 q hq
                                    · exact Or.inl h0)) (by omega) _ _ ls hP hD hS (lv_sub hl [0, 2, 3] rfl)
                          · skip
                            have fr1462 : ¬ ((w1357_i_12_35 : Int32).toInt = 0) := fr1462
                            exfalso; omega
                    · skip
                      have fr1455 : ¬ ((w1357_i_12_35 : Int32).toInt = 0) := fr1455
                      exfalso; omega
        have : (0 : Int32).toInt = 0 := (by decide)
        have : ((-1) : Int32).toInt = (-1) := (by decide)
        have i_12_37 : 0 ≤ (iv 12 37).toInt ∧ (iv 12 37).toInt ≤ 200 := hI.1 12 37
        have i_12_38 : 0 ≤ (iv 12 38).toInt ∧ (iv 12 38).toInt ≤ 200 := hI.1 12 38
        have i_12_33 : 0 ≤ (iv 12 33).toInt ∧ (iv 12 33).toInt ≤ 200 := hI.1 12 33
        exact lp1358 403 0 0 0 (-1) (iv 12 37) (iv 12 38) (fa 12 26) (fa 12 28) (fa 12 30) (fa 12 29) (fa 12 31) (fa 12 27) ⟨by decide, by decide⟩ ⟨by decide, by decide⟩ ⟨by decide, by decide⟩ ⟨by omega, by omega⟩ ⟨by omega, by omega⟩ (hI.2 12 26) (hI.2 12 28) (hI.2 12 30) (hI.2 12 29) (hI.2 12 31) (hI.2 12 27) (show ∀ j : Nat, (j : Int) < 12 * ((iv 12 23) : Int32).toInt → (fa 12 26) j = (fa 12 26) j ∧ (fa 12 27) j = (fa 12 27) j ∧ (fa 12 28) j = (fa 12 28) j from fun j h => ⟨rfl, rfl, rfl⟩) (show ((0 : Int32).toInt ≠ 0 ∨ ∀ j : Nat, 12 * ((iv 12 23) : Int32).toInt ≤ (j : Int) → (j : Int) < 12 * ((iv 12 23) : Int32).toInt + (0 : Int32).toInt → gd3 ((fa 12 26) j) ((fa 12 27) j) ((fa 12 28) j)) from Or.inr (fun j h1 h2 => by omega)) (show (((0 : Int32).toInt = 0 ∧ ((-1) : Int32).toInt = -1 ∧ Pf (fun j => sg ((fa 12 32) j).toInt) ((iv 12 33) : Int32).toInt ((iv 12 23) : Int32).toInt (fun i => if ((fa 12 26) (12 * (((iv 12 23) : Int32).toInt).toNat + i)).toInt = 0 then ((fa 12 27) (12 * (((iv 12 23) : Int32).toInt).toNat + i)).toInt else ((fa 12 26) (12 * (((iv 12 23) : Int32).toInt).toNat + i)).toInt + 4) (fun i => ((fa 12 28) (12 * (((iv 12 23) : Int32).toInt).toNat + i)).toInt) (fun i => ((fa 12 29) (12 * (((iv 12 23) : Int32).toInt).toNat + i)).toInt) (fun i j => if (j : Int) < ((fa 12 30) (12 * (((iv 12 23) : Int32).toInt).toNat + i)).toInt then ((fa 12 31) (8 * (12 * (((iv 12 23) : Int32).toInt).toNat + i) + j)).toInt else 0) ((0 : Int32).toInt).toNat (0 : Int32).toInt) ∨ ((0 : Int32).toInt ≠ 0 ∧ ∃ c : Nat, Out (fun j => sg ((fa 12 32) j).toInt) ((iv 12 33) : Int32).toInt ((iv 12 23) : Int32).toInt (0 : Int32).toInt ((-1) : Int32).toInt c (fun i => if ((fa 12 26) (12 * (((iv 12 23) : Int32).toInt).toNat + i)).toInt = 0 then ((fa 12 27) (12 * (((iv 12 23) : Int32).toInt).toNat + i)).toInt else ((fa 12 26) (12 * (((iv 12 23) : Int32).toInt).toNat + i)).toInt + 4) (fun i => ((fa 12 28) (12 * (((iv 12 23) : Int32).toInt).toNat + i)).toInt) (fun i => ((fa 12 29) (12 * (((iv 12 23) : Int32).toInt).toNat + i)).toInt) (fun i j => if (j : Int) < ((fa 12 30) (12 * (((iv 12 23) : Int32).toInt).toNat + i)).toInt then ((fa 12 31) (8 * (12 * (((iv 12 23) : Int32).toInt).toNat + i) + j)).toInt else 0))) from (by have hz0 : ((0 : Int32).toInt).toNat = 0 := (by decide); rw [hz0]; exact Or.inl ⟨by omega, by omega, (by decide : (0 : Int32).toInt = 0)⟩)) (show 0 ≤ (0 : Int32).toInt from by omega) (show ∀ j : Nat, (j : Int) < 12 * ((iv 12 23) : Int32).toInt → (fa 12 29) j = (fa 12 29) j ∧ (fa 12 30) j = (fa 12 30) j from fun j h => ⟨rfl, rfl⟩) (show ∀ j : Nat, (j : Int) < 96 * ((iv 12 23) : Int32).toInt → (fa 12 31) j = (fa 12 31) j from fun j h => rfl) (show ((0 : Int32).toInt ≠ 0 ∨ ∀ j : Nat, 12 * ((iv 12 23) : Int32).toInt ≤ (j : Int) → (j : Int) < 12 * ((iv 12 23) : Int32).toInt + (0 : Int32).toInt → gk ((fa 12 26) j) ((fa 12 27) j)) from Or.inr (fun j h1 h2 => by omega)) (show ((0 : Int32).toInt ≠ 0 ∨ ∀ j : Nat, 12 * ((iv 12 23) : Int32).toInt ≤ (j : Int) → (j : Int) < 12 * ((iv 12 23) : Int32).toInt + (0 : Int32).toInt → ((fa 12 26) j).toInt = 2 → ∀ q : Nat, (q : Int) < ((fa 12 30) j).toInt → 97 ≤ ((fa 12 31) (8 * j + q)).toInt) from Or.inr (fun j h1 h2 => by omega)) (show 402 - (0 : Int32).toInt - 201 * min 1 (0 : Int32).toInt < _ from by omega) _ _ ls hP hD hS (lv_sub hl [0, 1, 2] rfl)
      · have fc3 := z_eq (rfl : ((iv 12 23)).toInt = _) (by decide : (8 : Int32).toInt = 8) c3
        refine lv_ldc hx hb hown (ht _ m_1380) dX12_rule_19 ?_
        have : ((-100004) : Int32).toInt = (-100004) := (by decide)
        have i_12_33 : 0 ≤ (iv 12 33).toInt ∧ (iv 12 33).toInt ≤ 200 := hI.1 12 33
        have i_12_35 : 0 ≤ (iv 12 35).toInt ∧ (iv 12 35).toInt ≤ 5 := hI.1 12 35
        have hP9 : va_P (dC, dI) classes (WM h g ca (u2 (u2 (u2 (u2 (u2 (u2 (u2 iv 12 23 (iv 12 23)) 12 33 (iv 12 33)) 12 34 (iv 12 34)) 12 35 (iv 12 35)) 12 36 (iv 12 36)) 12 37 (iv 12 37)) 12 38 (iv 12 38)) lv (u2 (u2 (u2 (u2 (u2 (u2 (u2 (u2 fa 12 24 (fa 12 24)) 12 25 (fa 12 25)) 12 26 (fa 12 26)) 12 27 (fa 12 27)) 12 28 (fa 12 28)) 12 29 (fa 12 29)) 12 30 (fa 12 30)) 12 31 (fa 12 31)) la) s.heap := hP
        have hD9 : va_D A (WM h g ca (u2 (u2 (u2 (u2 (u2 (u2 (u2 iv 12 23 (iv 12 23)) 12 33 (iv 12 33)) 12 34 (iv 12 34)) 12 35 (iv 12 35)) 12 36 (iv 12 36)) 12 37 (iv 12 37)) 12 38 (iv 12 38)) lv (u2 (u2 (u2 (u2 (u2 (u2 (u2 (u2 fa 12 24 (fa 12 24)) 12 25 (fa 12 25)) 12 26 (fa 12 26)) 12 27 (fa 12 27)) 12 28 (fa 12 28)) 12 29 (fa 12 29)) 12 30 (fa 12 30)) 12 31 (fa 12 31)) la) := hD
        exact W.iret (v := (-100004)) hx hb hr (fun t ht9 hW => ⟨⟨(-100004), ((u2 (u2 (u2 (u2 (u2 (u2 (u2 iv 12 23 (iv 12 23)) 12 33 (iv 12 33)) 12 34 (iv 12 34)) 12 35 (iv 12 35)) 12 36 (iv 12 36)) 12 37 (iv 12 37)) 12 38 (iv 12 38)), lv, (u2 (u2 (u2 (u2 (u2 (u2 (u2 (u2 fa 12 24 (fa 12 24)) 12 25 (fa 12 25)) 12 26 (fa 12 26)) 12 27 (fa 12 27)) 12 28 (fa 12 28)) 12 29 (fa 12 29)) 12 30 (fa 12 30)) 12 31 (fa 12 31)), la), rfl, ⟨(fa 12 24), (fa 12 25), (fa 12 26), (fa 12 27), (fa 12 28), (fa 12 29), (fa 12 30), (fa 12 31), (iv 12 23), (iv 12 33), (iv 12 34), (iv 12 35), (iv 12 36), (iv 12 37), (iv 12 38), (hI.2 12 25), (hI.2 12 30), (hI.1 12 23), (hI.1 12 33), (hI.1 12 34), (hI.1 12 35), (hI.1 12 37), (hI.1 12 38), (show JCf ((iv 12 23) : Int32).toInt (fa 12 25) (fa 12 26) (fa 12 27) (fa 12 28) from hJC), (show ((((-100004) : Int32).toInt = -100002 ∧ ¬ (0 ≤ (a).toInt ∧ (a).toInt ≤ 3000) ∧ ((iv 12 33) : Int32).toInt = (iv 12 33).toInt ∧ ((iv 12 23) : Int32).toInt = (iv 12 23).toInt ∧ ((iv 12 36) : Int32).toInt = (iv 12 36).toInt) ∨ (((-100004) : Int32).toInt = -100004 ∧ (0 ≤ (a).toInt ∧ (a).toInt ≤ 3000) ∧ 8 ≤ (iv 12 23).toInt ∧ ((iv 12 33) : Int32).toInt = (iv 12 33).toInt ∧ ((iv 12 23) : Int32).toInt = (iv 12 23).toInt ∧ ((iv 12 36) : Int32).toInt = (iv 12 36).toInt) ∨ ((0 ≤ (a).toInt ∧ (a).toInt ≤ 3000) ∧ (iv 12 23).toInt < 8 ∧ ((iv 12 33) : Int32).toInt = 0 ∧ (((iv 12 35) : Int32).toInt ≠ 0 ∨ ((iv 12 36) : Int32).toInt = -1) ∧ (∃ c : Nat, Out (fun j => sg ((fa 12 32) j).toInt) (iv 12 33).toInt (iv 12 23).toInt ((iv 12 35) : Int32).toInt ((iv 12 36) : Int32).toInt c (fun i => if ((fa 12 26) (12 * ((iv 12 23).toInt).toNat + i)).toInt = 0 then ((fa 12 27) (12 * ((iv 12 23).toInt).toNat + i)).toInt else ((fa 12 26) (12 * ((iv 12 23).toInt).toNat + i)).toInt + 4) (fun i => ((fa 12 28) (12 * ((iv 12 23).toInt).toNat + i)).toInt) (fun i => ((fa 12 29) (12 * ((iv 12 23).toInt).toNat + i)).toInt) (fun i j => if (j : Int) < ((fa 12 30) (12 * ((iv 12 23).toInt).toNat + i)).toInt then ((fa 12 31) (8 * (12 * ((iv 12 23).toInt).toNat + i) + j)).toInt else 0) ∧ (((iv 12 35) : Int32).toInt ≠ 0 ∨ (((fa 12 25) ((iv 12 23).toInt).toNat).toInt = (c : Int) ∧ (fa 12 24) ((iv 12 23).toInt).toNat = a ∧ (∀ j : Nat, 12 * (iv 12 23).toInt ≤ (j : Int) → (j : Int) < 12 * (iv 12 23).toInt + (c : Int) → gk ((fa 12 26) j) ((fa 12 27) j)) ∧ ∀ j : Nat, 12 * (iv 12 23).toInt ≤ (j : Int) → (j : Int) < 12 * (iv 12 23).toInt + (c : Int) → ((fa 12 26) j).toInt = 2 → ∀ q : Nat, (q : Int) < ((fa 12 30) j).toInt → 97 ≤ ((fa 12 31) (8 * j + q)).toInt))) ∧ ((((iv 12 35) : Int32).toInt = 0 ∧ ((-100004) : Int32).toInt = (iv 12 23).toInt ∧ ((iv 12 23) : Int32).toInt = (iv 12 23).toInt + 1) ∨ (((iv 12 35) : Int32).toInt ≠ 0 ∧ ((-100004) : Int32).toInt = -10 - ((iv 12 35) : Int32).toInt ∧ ((iv 12 23) : Int32).toInt = (iv 12 23).toInt)))) from Or.inr (Or.inl ⟨by omega, ⟨by omega, by omega⟩, by omega, by omega, by omega, by omega⟩)), (show ∀ j : Nat, (j : Int) < 12 * (iv 12 23).toInt → (fa 12 26) j = (fa 12 26) j ∧ (fa 12 27) j = (fa 12 27) j ∧ (fa 12 28) j = (fa 12 28) j ∧ (fa 12 29) j = (fa 12 29) j ∧ (fa 12 30) j = (fa 12 30) j from fun j h => ⟨rfl, rfl, rfl, rfl, rfl⟩), (show ∀ j : Nat, (j : Int) < 96 * (iv 12 23).toInt → (fa 12 31) j = (fa 12 31) j from fun j h => rfl), (show ∀ j : Nat, j ≠ ((iv 12 23).toInt).toNat → (fa 12 24) j = (fa 12 24) j ∧ (fa 12 25) j = (fa 12 25) j from fun j h => ⟨rfl, rfl⟩), ⟨by decide, by decide⟩, rfl⟩, by rw [ht9]; exact hP9, hD9⟩, hS.F ht9⟩) hS.2.2 dX12_rule_21
    · exact absurd c2 (by decide)
  · skip
    refine lv_if_ne (tgt := 10) hx hb dX12_rule_4 (by decide) (fun c1477 => ?_) (fun c1477 => ?_)
    · exact absurd rfl c1477
    · skip
      refine lv_ldc hx hb hown (ht _ m_1373) dX12_rule_7 ?_
      have i_12_23 : 0 ≤ (iv 12 23).toInt ∧ (iv 12 23).toInt ≤ 8 := hI.1 12 23
      have : ((-100002) : Int32).toInt = (-100002) := (by decide)
      have i_12_33 : 0 ≤ (iv 12 33).toInt ∧ (iv 12 33).toInt ≤ 200 := hI.1 12 33
      have i_12_35 : 0 ≤ (iv 12 35).toInt ∧ (iv 12 35).toInt ≤ 5 := hI.1 12 35
      have hP9 : va_P (dC, dI) classes (WM h g ca (u2 (u2 (u2 (u2 (u2 (u2 (u2 iv 12 23 (iv 12 23)) 12 33 (iv 12 33)) 12 34 (iv 12 34)) 12 35 (iv 12 35)) 12 36 (iv 12 36)) 12 37 (iv 12 37)) 12 38 (iv 12 38)) lv (u2 (u2 (u2 (u2 (u2 (u2 (u2 (u2 fa 12 24 (fa 12 24)) 12 25 (fa 12 25)) 12 26 (fa 12 26)) 12 27 (fa 12 27)) 12 28 (fa 12 28)) 12 29 (fa 12 29)) 12 30 (fa 12 30)) 12 31 (fa 12 31)) la) s.heap := hP
      have hD9 : va_D A (WM h g ca (u2 (u2 (u2 (u2 (u2 (u2 (u2 iv 12 23 (iv 12 23)) 12 33 (iv 12 33)) 12 34 (iv 12 34)) 12 35 (iv 12 35)) 12 36 (iv 12 36)) 12 37 (iv 12 37)) 12 38 (iv 12 38)) lv (u2 (u2 (u2 (u2 (u2 (u2 (u2 (u2 fa 12 24 (fa 12 24)) 12 25 (fa 12 25)) 12 26 (fa 12 26)) 12 27 (fa 12 27)) 12 28 (fa 12 28)) 12 29 (fa 12 29)) 12 30 (fa 12 30)) 12 31 (fa 12 31)) la) := hD
      exact W.iret (v := (-100002)) hx hb hr (fun t ht9 hW => ⟨⟨(-100002), ((u2 (u2 (u2 (u2 (u2 (u2 (u2 iv 12 23 (iv 12 23)) 12 33 (iv 12 33)) 12 34 (iv 12 34)) 12 35 (iv 12 35)) 12 36 (iv 12 36)) 12 37 (iv 12 37)) 12 38 (iv 12 38)), lv, (u2 (u2 (u2 (u2 (u2 (u2 (u2 (u2 fa 12 24 (fa 12 24)) 12 25 (fa 12 25)) 12 26 (fa 12 26)) 12 27 (fa 12 27)) 12 28 (fa 12 28)) 12 29 (fa 12 29)) 12 30 (fa 12 30)) 12 31 (fa 12 31)), la), rfl, ⟨(fa 12 24), (fa 12 25), (fa 12 26), (fa 12 27), (fa 12 28), (fa 12 29), (fa 12 30), (fa 12 31), (iv 12 23), (iv 12 33), (iv 12 34), (iv 12 35), (iv 12 36), (iv 12 37), (iv 12 38), (hI.2 12 25), (hI.2 12 30), (hI.1 12 23), (hI.1 12 33), (hI.1 12 34), (hI.1 12 35), (hI.1 12 37), (hI.1 12 38), (show JCf ((iv 12 23) : Int32).toInt (fa 12 25) (fa 12 26) (fa 12 27) (fa 12 28) from hJC), (show ((((-100002) : Int32).toInt = -100002 ∧ ¬ (0 ≤ (a).toInt ∧ (a).toInt ≤ 3000) ∧ ((iv 12 33) : Int32).toInt = (iv 12 33).toInt ∧ ((iv 12 23) : Int32).toInt = (iv 12 23).toInt ∧ ((iv 12 36) : Int32).toInt = (iv 12 36).toInt) ∨ (((-100002) : Int32).toInt = -100004 ∧ (0 ≤ (a).toInt ∧ (a).toInt ≤ 3000) ∧ 8 ≤ (iv 12 23).toInt ∧ ((iv 12 33) : Int32).toInt = (iv 12 33).toInt ∧ ((iv 12 23) : Int32).toInt = (iv 12 23).toInt ∧ ((iv 12 36) : Int32).toInt = (iv 12 36).toInt) ∨ ((0 ≤ (a).toInt ∧ (a).toInt ≤ 3000) ∧ (iv 12 23).toInt < 8 ∧ ((iv 12 33) : Int32).toInt = 0 ∧ (((iv 12 35) : Int32).toInt ≠ 0 ∨ ((iv 12 36) : Int32).toInt = -1) ∧ (∃ c : Nat, Out (fun j => sg ((fa 12 32) j).toInt) (iv 12 33).toInt (iv 12 23).toInt ((iv 12 35) : Int32).toInt ((iv 12 36) : Int32).toInt c (fun i => if ((fa 12 26) (12 * ((iv 12 23).toInt).toNat + i)).toInt = 0 then ((fa 12 27) (12 * ((iv 12 23).toInt).toNat + i)).toInt else ((fa 12 26) (12 * ((iv 12 23).toInt).toNat + i)).toInt + 4) (fun i => ((fa 12 28) (12 * ((iv 12 23).toInt).toNat + i)).toInt) (fun i => ((fa 12 29) (12 * ((iv 12 23).toInt).toNat + i)).toInt) (fun i j => if (j : Int) < ((fa 12 30) (12 * ((iv 12 23).toInt).toNat + i)).toInt then ((fa 12 31) (8 * (12 * ((iv 12 23).toInt).toNat + i) + j)).toInt else 0) ∧ (((iv 12 35) : Int32).toInt ≠ 0 ∨ (((fa 12 25) ((iv 12 23).toInt).toNat).toInt = (c : Int) ∧ (fa 12 24) ((iv 12 23).toInt).toNat = a ∧ (∀ j : Nat, 12 * (iv 12 23).toInt ≤ (j : Int) → (j : Int) < 12 * (iv 12 23).toInt + (c : Int) → gk ((fa 12 26) j) ((fa 12 27) j)) ∧ ∀ j : Nat, 12 * (iv 12 23).toInt ≤ (j : Int) → (j : Int) < 12 * (iv 12 23).toInt + (c : Int) → ((fa 12 26) j).toInt = 2 → ∀ q : Nat, (q : Int) < ((fa 12 30) j).toInt → 97 ≤ ((fa 12 31) (8 * j + q)).toInt))) ∧ ((((iv 12 35) : Int32).toInt = 0 ∧ ((-100002) : Int32).toInt = (iv 12 23).toInt ∧ ((iv 12 23) : Int32).toInt = (iv 12 23).toInt + 1) ∨ (((iv 12 35) : Int32).toInt ≠ 0 ∧ ((-100002) : Int32).toInt = -10 - ((iv 12 35) : Int32).toInt ∧ ((iv 12 23) : Int32).toInt = (iv 12 23).toInt)))) from Or.inl ⟨by omega, by omega, by omega, by omega, by omega⟩), (show ∀ j : Nat, (j : Int) < 12 * (iv 12 23).toInt → (fa 12 26) j = (fa 12 26) j ∧ (fa 12 27) j = (fa 12 27) j ∧ (fa 12 28) j = (fa 12 28) j ∧ (fa 12 29) j = (fa 12 29) j ∧ (fa 12 30) j = (fa 12 30) j from fun j h => ⟨rfl, rfl, rfl, rfl, rfl⟩), (show ∀ j : Nat, (j : Int) < 96 * (iv 12 23).toInt → (fa 12 31) j = (fa 12 31) j from fun j h => rfl), (show ∀ j : Nat, j ≠ ((iv 12 23).toInt).toNat → (fa 12 24) j = (fa 12 24) j ∧ (fa 12 25) j = (fa 12 25) j from fun j h => ⟨rfl, rfl⟩), ⟨by decide, by decide⟩, rfl⟩, by rw [ht9]; exact hP9, hD9⟩, hS.F ht9⟩) hS.2.2 dX12_rule_9
set_option maxHeartbeats 4000000 in
set_option maxRecDepth 100000 in
/-- X12_fault -/
theorem c_X12_fault_r (l : Launch) (dC : Nat → ClassId) (dI : Nat → Nat → Nat) (h : Nat) (g : Nat → Nat → Nat) (ca : Nat → Nat → ClassId) (iv : Nat → Nat → Int32) (lv : Nat → Nat → Int64) (fa : Nat → Nat → Nat → Int32) (la : Nat → Nat → Nat → Int64) (hI : IX iv fa) : Met l yX12_fault (wc yX12_fault cX12_fault 1 (some .int)) ({ frames := 0, cells := 0, slots := 0, locals := 0 } : Room) (pR (dC, dI) classes (WM h g ca iv lv fa la) (TM ca) [.ref h]) (vp_Si (fun r => (True) ∧ (r.toInt = (iv 12 36).toInt))) 0 0 (fun _ => False) := by
  refine Met.ofW (cc := cX12_fault) (maxL := 1) (ret := (some .int)) (by decide) rfl ?_
  intro p e s m args below meth c s₁ B hml hv
  obtain ⟨rfl, hP, hK⟩ := hv
  have hx := B.exec
  have hb := B.bytes
  have hr := B.returns
  have ht := tb_tl (atoms_spec (ws := wc yX12_fault cX12_fault 1 (some .int)) B.pre)
  have hown : s.vm.findClass RX12 = some m.cls := findClass_of_methodNamed B.named
  have hlocks := B.notSynchronized
  have hl := lv_entry [.ref h] (n := 1) (Nat.le_of_ble_eq_true rfl)
  rw [lg_entry_eq]
  generalize (lg_sl [.ref h] ++ List.replicate (1 - (lg_sl [.ref h]).length) Slot.unset).toArray = ls at hl ⊢
  have hl : lv_has ls 1 [(0, .ref h)] := hl
  refine lv_aload_n hx hb dX12_fault_0 rfl (lv_at hl 0 rfl) ?_
  refine gM_12_36 hx hb ht hown hK hP m_1175 (v := (iv 12 36)) rfl dX12_fault_1 ?_
  exact W.iret (v := (iv 12 36)) hx hb hr (fun t ht9 hW => ⟨(iv 12 36), rfl, ⟨trivial, (show ((iv 12 36) : Int32).toInt = ((iv 12 36) : Int32).toInt from by omega)⟩, ht9⟩) (fun q hq => by cases hq) dX12_fault_4
