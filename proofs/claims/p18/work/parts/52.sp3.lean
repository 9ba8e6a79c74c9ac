/-! ===== sp3 ===== -/

theorem cl40_e {v r : Int} (h : (40 < v ∧ r = 40) ∨ (v < -40 ∧ r = -40) ∨ (-40 ≤ v ∧ v ≤ 40 ∧ r = v)) : r = cl40 v := by
  unfold cl40
  by_cases a : 40 < v
  · rw [if_pos a]; omega
  · rw [if_neg a]
    by_cases b : v < -40
    · rw [if_pos b]; omega
    · rw [if_neg b]; omega
set_option maxHeartbeats 4000000 in
set_option maxRecDepth 100000 in
/-- X12_held -/
theorem c_X12_held_w (l : Launch) (dC : Nat → ClassId) (dI : Nat → Nat → Nat) (a : Int32) : Met l yX12_held (wc yX12_held cX12_held 1 (some .int)) ({ frames := 0, cells := 0, slots := 0, locals := 0 } : Room) (pR (dC, dI) classes [] [] [.int a]) (vp_Si (fun r => ((-40) ≤ r.toInt ∧ r.toInt ≤ 40) ∧ (r.toInt = cl40 a.toInt))) 0 0 (fun _ => False) := by
  refine Met.ofW (cc := cX12_held) (maxL := 1) (ret := (some .int)) (by decide) rfl ?_
  intro p e s m args below meth c s₁ B hml hv
  obtain ⟨rfl, hP, hK⟩ := hv
  have hx := B.exec
  have hb := B.bytes
  have hr := B.returns
  have ht := tb_tl (atoms_spec (ws := wc yX12_held cX12_held 1 (some .int)) B.pre)
  have hown : s.vm.findClass RX12 = some m.cls := findClass_of_methodNamed B.named
  have hlocks := B.notSynchronized
  have hl := lv_entry [.int a] (n := 1) (Nat.le_of_ble_eq_true rfl)
  rw [lg_entry_eq]
  generalize (lg_sl [.int a] ++ List.replicate (1 - (lg_sl [.int a]).length) Slot.unset).toArray = ls at hl ⊢
  have hl : lv_has ls 1 [(0, .int a)] := hl
  refine lv_iload_n hx hb dX12_held_0 rfl (lv_at hl 0 rfl) ?_
  refine lv_bipush (v := 40) hx hb dX12_held_1 (by decide) ?_
  refine lv_icmp_le (tgt := 11) hx hb dX12_held_3 (by decide) (fun c1 => ?_) (fun c1 => ?_)
  · have fc1 := z_le (rfl : (a).toInt = _) (by decide : (40 : Int32).toInt = 40) c1
    refine lv_iload_n hx hb dX12_held_11 rfl (lv_at hl 0 rfl) ?_
    refine lv_bipush (v := (-40)) hx hb dX12_held_12 (by decide) ?_
    refine lv_icmp_ge (tgt := 22) hx hb dX12_held_14 (by decide) (fun c2 => ?_) (fun c2 => ?_)
    · have fc2 := z_le (by decide : ((-40) : Int32).toInt = (-40)) (rfl : (a).toInt = _) c2
      refine lv_iload_n hx hb dX12_held_22 rfl (lv_at hl 0 rfl) ?_
      exact W.iret (v := a) hx hb hr (fun t ht9 hW => ⟨a, rfl, ⟨⟨by omega, by omega⟩, (show (a : Int32).toInt = cl40 (a).toInt from (cl40_e (by omega)))⟩, ht9⟩) (fun q hq => by cases hq) dX12_held_23
    · have fc2 := z_nle (by decide : ((-40) : Int32).toInt = (-40)) (rfl : (a).toInt = _) c2
      refine lv_bipush (v := (-40)) hx hb dX12_held_17 (by decide) ?_
      refine lv_goto (tgt := 23) hx hb dX12_held_19 (by decide) ?_
      have : ((-40) : Int32).toInt = (-40) := (by decide)
      exact W.iret (v := (-40)) hx hb hr (fun t ht9 hW => ⟨(-40), rfl, ⟨⟨by decide, by decide⟩, (show ((-40) : Int32).toInt = cl40 (a).toInt from (cl40_e (by omega)))⟩, ht9⟩) (fun q hq => by cases hq) dX12_held_23
  · have fc1 := z_nle (rfl : (a).toInt = _) (by decide : (40 : Int32).toInt = 40) c1
    refine lv_bipush (v := 40) hx hb dX12_held_6 (by decide) ?_
    refine lv_goto (tgt := 23) hx hb dX12_held_8 (by decide) ?_
    have : (40 : Int32).toInt = 40 := (by decide)
    exact W.iret (v := 40) hx hb hr (fun t ht9 hW => ⟨40, rfl, ⟨⟨by decide, by decide⟩, (show (40 : Int32).toInt = cl40 (a).toInt from (cl40_e (by omega)))⟩, ht9⟩) (fun q hq => by cases hq) dX12_held_23
set_option maxHeartbeats 4000000 in
set_option maxRecDepth 100000 in
/-- X12_span -/
theorem c_X12_span_w (l : Launch) (dC : Nat → ClassId) (dI : Nat → Nat → Nat) (sz : Nat) (h : Nat) (g : Nat → Nat → Nat) (ca : Nat → Nat → ClassId) (iv : Nat → Nat → Int32) (lv : Nat → Nat → Int64) (fa : Nat → Nat → Nat → Int32) (la : Nat → Nat → Nat → Int64) (hI : IX iv fa) (a : Int32) (b : Int32) (hJC : JCf (iv 12 23).toInt (fa 12 25) (fa 12 26) (fa 12 27) (fa 12 28)) (hJR : JRf (iv 12 3).toInt (fa 12 7)) (hJO : (iv 12 20).toInt = -1 ∧ (iv 12 21).toInt = -1 ∧ (iv 12 22).toInt = -1) (hJK : ∀ k j : Nat, (k : Int) < (iv 12 23).toInt → 12 * k ≤ j → (j : Int) < 12 * (k : Int) + (fa 12 25 k).toInt → (fa 12 26 j).toInt = 3 → 0 ≤ (fa 12 28 j).toInt ∧ (fa 12 28 j).toInt < (k : Int)) (hJD : ∀ s : Nat, (s : Int) < (iv 12 3).toInt → (100 ≤ (fa 12 7 s).toInt ∧ (fa 12 7 s).toInt ≤ 9999) ∧ (50 ≤ (fa 12 8 s).toInt ∧ (fa 12 8 s).toInt ≤ 9999)) (hJN : JNf (iv 12 3).toInt (fa 12 4) (fa 12 5)) (hJH : ∀ a d v : Int, 0 ≤ a → a ≤ 5 → FoY (iv 12 23).toInt (fa 12 24) (fa 12 25) (fa 12 26) (fa 12 27) (fa 12 28) a d v → fLo a ≤ v ∧ v ≤ fHi a) (hJI : ∀ j : Nat, (j : Int) < (iv 12 1).toInt → 1 ≤ (fa 12 2 j).toInt ∧ (fa 12 2 j).toInt ≤ 99999) : Met l yX12_span (wc yX12_span cX12_span 6 (some .long)) ({ frames := 3, cells := 0, slots := 0, locals := 92 } : Room) (pW (dC, dI) classes (WM h g ca iv lv fa la) (TM ca) sz [.ref h, .int a, .int b]) (va_Ql (fun r (u : SS) => ∃ (na_12_39 : Nat → Int32) (na_12_40 : Nat → Int32) (ni_12_19 : Int32) (ni_12_41 : Int32) (nl_12_17 : Int64) (nl_12_18 : Int64) (nl_12_46 : Int64) (nl_12_47 : Int64), (∀ j, inb (bA 12 39 j) (na_12_39 j)) ∧ (∀ j, inb (bA 12 40 j) (na_12_40 j)) ∧ inb (bI 12 41) ni_12_41 ∧ (((r.toInt = -100001 ∧ ¬ (0 ≤ a.toInt ∧ a.toInt < (iv 12 1).toInt)) ∨ (r.toInt = -100002 ∧ (0 ≤ a.toInt ∧ a.toInt < (iv 12 1).toInt) ∧ ¬ (0 ≤ b.toInt ∧ b.toInt ≤ 3)) ∨ (r.toInt = -100003 ∧ (0 ≤ a.toInt ∧ a.toInt < (iv 12 1).toInt) ∧ (0 ≤ b.toInt ∧ b.toInt ≤ 3) ∧ (nY (fa 12 4) (fa 12 5) (fa 12 11) (fa 12 12) a.toInt (iv 12 0).toInt 0 ((iv 12 3).toInt).toNat).toInt = 0) ∨ ((0 ≤ a.toInt ∧ a.toInt < (iv 12 1).toInt) ∧ (0 ≤ b.toInt ∧ b.toInt ≤ 3) ∧ (nY (fa 12 4) (fa 12 5) (fa 12 11) (fa 12 12) a.toInt (iv 12 0).toInt 0 ((iv 12 3).toInt).toNat).toInt ≠ 0 ∧ ∃ wt LU LD : Int, FoY (iv 12 23).toInt (fa 12 24) (fa 12 25) (fa 12 26) (fa 12 27) (fa 12 28) 0 (iv 12 0).toInt wt ∧ 0 ≤ wt ∧ LwY ((sY (fa 12 4) (fa 12 5) (fa 12 11) (fa 12 12) (fa 12 8) a.toInt (iv 12 0).toInt 0 ((iv 12 3).toInt).toNat).toInt - smI (cyP (fa 12 4) (fa 12 5) (fa 12 11) (fa 12 12) a.toInt (iv 12 0).toInt 0) (fun s : Nat => cl40 (erS b.toInt (fa 12 15) (tLa (fa 12 14) (fa 12 16) ((fa 12 6) s) ((fa 12 11) s) ((iv 12 13).toInt).toNat) (tFi (fa 12 14) (fa 12 16) ((fa 12 6) s) ((fa 12 11) s) ((iv 12 13).toInt).toNat))) ((iv 12 3).toInt).toNat) ((sY (fa 12 4) (fa 12 5) (fa 12 11) (fa 12 12) (fa 12 7) a.toInt (iv 12 0).toInt 0 ((iv 12 3).toInt).toNat).toInt - smI (cyP (fa 12 4) (fa 12 5) (fa 12 11) (fa 12 12) a.toInt (iv 12 0).toInt 0) (fun s : Nat => cl40 (erS b.toInt (fa 12 15) (tLa (fa 12 14) (fa 12 16) ((fa 12 6) s) ((fa 12 11) s) ((iv 12 13).toInt).toNat) (tFi (fa 12 14) (fa 12 16) ((fa 12 6) s) ((fa 12 11) s) ((iv 12 13).toInt).toNat))) ((iv 12 3).toInt).toNat) (((fa 12 2) (a.toInt).toNat).toInt * (1000 + wt)) LU LD ∧ ltY LU LD (b.toInt % 2) r.toInt))) ∧ (True) ∧ u = ((u2 (u2 iv 12 19 ni_12_19) 12 41 ni_12_41), (u2 (u2 (u2 (u2 lv 12 17 nl_12_17) 12 18 nl_12_18) 12 46 nl_12_46) 12 47 nl_12_47), (u2 (u2 fa 12 39 na_12_39) 12 40 na_12_40), la)) (bM (dC, dI) h g ca (va_A (WM h g ca iv lv fa la) sz)) (va_A (WM h g ca iv lv fa la) sz)) 0 0 (va_A (WM h g ca iv lv fa la) sz) := by
  refine Met.ofW (cc := cX12_span) (maxL := 6) (ret := (some .long)) (by decide) rfl ?_
  intro p e s m args below meth c s₁ B hml hv
  obtain ⟨rfl, hsz, hP, hK, hD0⟩ := hv
  have hx := B.exec
  have hb := B.bytes
  have hr := B.returns
  have ht := tb_tl (atoms_spec (ws := wc yX12_span cX12_span 6 (some .long)) B.pre)
  have hown : s.vm.findClass RX12 = some m.cls := findClass_of_methodNamed B.named
  have hlocks := B.notSynchronized
  subst hsz
  have hD := hD0.self (sz := s.heap.size)
  generalize hAe : va_A (WM h g ca iv lv fa la) s.heap.size = A at hD ⊢
  have hA : ∀ q : Nat, s.heap.size ≤ q → A q := fun q h => by rw [← hAe]; exact Or.inr h
  have hS : va_S A s.heap s.heap [] := va_S.rf
  have hl := lv_entry [.ref h, .int a, .int b] (n := 6) (Nat.le_of_ble_eq_true rfl)
  rw [lg_entry_eq]
  generalize (lg_sl [.ref h, .int a, .int b] ++ List.replicate (6 - (lg_sl [.ref h, .int a, .int b]).length) Slot.unset).toArray = ls at hl ⊢
  have hl : lv_has ls 6 [(0, .ref h), (1, .int a), (2, .int b)] := hl
  refine lv_aload_n hx hb dX12_span_0 rfl (lv_at hl 0 rfl) ?_
  refine lv_iload_n hx hb dX12_span_1 rfl (lv_at hl 1 rfl) ?_
  refine vp_callSi (W.runV (As := [.int a]) (rest := []) ⟨hx, hb, hml, hown, ht⟩ (c_X12_noBale l dC dI h g ca iv lv fa la hI a) (kV 1 ht m_1385 m_1387 m_42 m_89 m_1388 rfl rfl hd_X12_noBale_v ⟨Nat.le_of_ble_eq_true rfl, Nat.le_of_ble_eq_true rfl⟩) (vR hP hK (rM_12 hK hP)) rfl rfl hl.1 rfl (lv_room (Nat.le_of_ble_eq_true rfl)) dX12_span_2 ⟨Nat.le_of_ble_eq_true rfl, Nat.le_of_ble_eq_true rfl⟩) (fun r1 hr1 => ?_)
  rcases hr1 with ⟨rfl, fr1⟩ | ⟨rfl, fr1⟩
  · skip
    have i_12_1 : 0 ≤ (iv 12 1).toInt ∧ (iv 12 1).toInt ≤ 10 := hI.1 12 1
    have fr1 : ¬ (0 ≤ (a : Int32).toInt ∧ (a : Int32).toInt < ((iv 12 1) : Int32).toInt) := fr1
    refine lv_if_eq (tgt := 12) hx hb dX12_span_5 (by decide) (fun c2 => ?_) (fun c2 => ?_)
    · exact absurd c2 (by decide)
    · skip
      refine lv_ldc2 hx hb hown (ht _ m_1560) dX12_span_8 ?_
      have : ((-100001) : Int64).toInt = (-100001) := (by decide)
      have hP9 : va_P (dC, dI) classes (WM h g ca (u2 (u2 iv 12 19 (iv 12 19)) 12 41 (iv 12 41)) (u2 (u2 (u2 (u2 lv 12 17 (lv 12 17)) 12 18 (lv 12 18)) 12 46 (lv 12 46)) 12 47 (lv 12 47)) (u2 (u2 fa 12 39 (fa 12 39)) 12 40 (fa 12 40)) la) s.heap := hP
      have hD9 : va_D A (WM h g ca (u2 (u2 iv 12 19 (iv 12 19)) 12 41 (iv 12 41)) (u2 (u2 (u2 (u2 lv 12 17 (lv 12 17)) 12 18 (lv 12 18)) 12 46 (lv 12 46)) 12 47 (lv 12 47)) (u2 (u2 fa 12 39 (fa 12 39)) 12 40 (fa 12 40)) la) := hD
      exact W.lret (v := (-100001)) hx hb hr (fun t ht9 hW => ⟨⟨(-100001), ((u2 (u2 iv 12 19 (iv 12 19)) 12 41 (iv 12 41)), (u2 (u2 (u2 (u2 lv 12 17 (lv 12 17)) 12 18 (lv 12 18)) 12 46 (lv 12 46)) 12 47 (lv 12 47)), (u2 (u2 fa 12 39 (fa 12 39)) 12 40 (fa 12 40)), la), rfl, ⟨(fa 12 39), (fa 12 40), (iv 12 19), (iv 12 41), (lv 12 17), (lv 12 18), (lv 12 46), (lv 12 47), (hI.2 12 39), (hI.2 12 40), (hI.1 12 41), (show ((((-100001) : Int64).toInt = -100001 ∧ ¬ (0 ≤ (a).toInt ∧ (a).toInt < (iv 12 1).toInt)) ∨ (((-100001) : Int64).toInt = -100002 ∧ (0 ≤ (a).toInt ∧ (a).toInt < (iv 12 1).toInt) ∧ ¬ (0 ≤ (b).toInt ∧ (b).toInt ≤ 3)) ∨ (((-100001) : Int64).toInt = -100003 ∧ (0 ≤ (a).toInt ∧ (a).toInt < (iv 12 1).toInt) ∧ (0 ≤ (b).toInt ∧ (b).toInt ≤ 3) ∧ (nY (fa 12 4) (fa 12 5) (fa 12 11) (fa 12 12) (a).toInt (iv 12 0).toInt 0 ((iv 12 3).toInt).toNat).toInt = 0) ∨ ((0 ≤ (a).toInt ∧ (a).toInt < (iv 12 1).toInt) ∧ (0 ≤ (b).toInt ∧ (b).toInt ≤ 3) ∧ (nY (fa 12 4) (fa 12 5) (fa 12 11) (fa 12 12) (a).toInt (iv 12 0).toInt 0 ((iv 12 3).toInt).toNat).toInt ≠ 0 ∧ ∃ wt LU LD : Int, FoY (iv 12 23).toInt (fa 12 24) (fa 12 25) (fa 12 26) (fa 12 27) (fa 12 28) 0 (iv 12 0).toInt wt ∧ 0 ≤ wt ∧ LwY ((sY (fa 12 4) (fa 12 5) (fa 12 11) (fa 12 12) (fa 12 8) (a).toInt (iv 12 0).toInt 0 ((iv 12 3).toInt).toNat).toInt - smI (cyP (fa 12 4) (fa 12 5) (fa 12 11) (fa 12 12) (a).toInt (iv 12 0).toInt 0) (fun s : Nat => cl40 (erS (b).toInt (fa 12 15) (tLa (fa 12 14) (fa 12 16) ((fa 12 6) s) ((fa 12 11) s) ((iv 12 13).toInt).toNat) (tFi (fa 12 14) (fa 12 16) ((fa 12 6) s) ((fa 12 11) s) ((iv 12 13).toInt).toNat))) ((iv 12 3).toInt).toNat) ((sY (fa 12 4) (fa 12 5) (fa 12 11) (fa 12 12) (fa 12 7) (a).toInt (iv 12 0).toInt 0 ((iv 12 3).toInt).toNat).toInt - smI (cyP (fa 12 4) (fa 12 5) (fa 12 11) (fa 12 12) (a).toInt (iv 12 0).toInt 0) (fun s : Nat => cl40 (erS (b).toInt (fa 12 15) (tLa (fa 12 14) (fa 12 16) ((fa 12 6) s) ((fa 12 11) s) ((iv 12 13).toInt).toNat) (tFi (fa 12 14) (fa 12 16) ((fa 12 6) s) ((fa 12 11) s) ((iv 12 13).toInt).toNat))) ((iv 12 3).toInt).toNat) (((fa 12 2) ((a).toInt).toNat).toInt * (1000 + wt)) LU LD ∧ ltY LU LD ((b).toInt % 2) ((-100001) : Int64).toInt)) from Or.inl ⟨by omega, by omega⟩), trivial, rfl⟩, by rw [ht9]; exact hP9, hD9⟩, hS.F ht9⟩) hS.2.2 dX12_span_11
  · skip
    have i_12_1 : 0 ≤ (iv 12 1).toInt ∧ (iv 12 1).toInt ≤ 10 := hI.1 12 1
    have fr1 : (0 ≤ (a : Int32).toInt ∧ (a : Int32).toInt < ((iv 12 1) : Int32).toInt) := Decidable.not_not.mp fr1
    refine lv_if_eq (tgt := 12) hx hb dX12_span_5 (by decide) (fun c3 => ?_) (fun c3 => ?_)
    · skip
      refine lv_iload_n hx hb dX12_span_12 rfl (lv_at hl 2 rfl) ?_
      refine lv_i2l (v := (b.toInt64)) hx hb dX12_span_13 rfl ?_
      refine lv_lconst (v := 0) hx hb dX12_span_14 (by decide) ?_
      refine lv_ldc2 hx hb hown (ht _ m_1391) dX12_span_15 ?_
      refine vp_callSi (W.runS (As := [.long (b.toInt64), .long 0, .long 3]) (rest := []) ⟨hx, hb, hml, hown, ht⟩ (c_X12_in l dC dI (b.toInt64) 0 3 (b.toInt) (0) (3) ((Int32.toInt_toInt64 b).trans rfl) (by decide : (0 : Int64).toInt = 0) (by decide : (3 : Int64).toInt = 3)) (kS 3 ht m_1370 m_1371 m_89 m_1372 rfl rfl hd_X12_in_v ⟨Nat.le_of_ble_eq_true rfl, Nat.le_of_ble_eq_true rfl⟩) (sR noP (hK.sub (tys' := []) [] rfl)) rfl rfl hl.1 rfl (lv_room (Nat.le_of_ble_eq_true rfl)) dX12_span_18 ⟨Nat.le_of_ble_eq_true rfl, Nat.le_of_ble_eq_true rfl⟩) (fun r4 hr4 => ?_)
      rcases hr4 with ⟨rfl, fr4⟩ | ⟨rfl, fr4⟩
      · skip
        refine lv_if_ne (tgt := 28) hx hb dX12_span_21 (by decide) (fun c5 => ?_) (fun c5 => ?_)
        · skip
          have : (-1) ≤ ((iv 12 20) : Int32).toInt ∧ ((iv 12 20) : Int32).toInt ≤ (-1) := ⟨by omega, by omega⟩
          have : (-1) ≤ ((iv 12 21) : Int32).toInt ∧ ((iv 12 21) : Int32).toInt ≤ (-1) := ⟨by omega, by omega⟩
          have : (-1) ≤ ((iv 12 22) : Int32).toInt ∧ ((iv 12 22) : Int32).toInt ≤ (-1) := ⟨by omega, by omega⟩
          refine lv_aload_n hx hb dX12_span_28 rfl (lv_at hl 0 rfl) ?_
          refine lv_iload_n hx hb dX12_span_29 rfl (lv_at hl 1 rfl) ?_
          refine lv_iconst (v := 0) hx hb dX12_span_30 (by decide) ?_
          refine lv_aload_n hx hb dX12_span_31 rfl (lv_at hl 0 rfl) ?_
          have i_12_0 : 0 ≤ (iv 12 0).toInt ∧ (iv 12 0).toInt ≤ 3000 := hI.1 12 0
          refine gM_12_0 hx hb ht hown hK hP m_1139 (v := (iv 12 0)) rfl dX12_span_32 ?_
          have hFc := free_all hD hS hA
          refine va_calli (va_runV (As := [.int a, .int 0, .int (iv 12 0)]) (rest := []) ⟨hx, hb, hml, hown, ht⟩ (c_X12_sumUp_s l dC dI s.heap.size h g ca iv lv fa la hI a 0 (iv 12 0) (show (-1) ≤ ((iv 12 20) : Int32).toInt ∧ ((iv 12 20) : Int32).toInt ≤ (-1) from ⟨by omega, by omega⟩) (show (-1) ≤ ((iv 12 21) : Int32).toInt ∧ ((iv 12 21) : Int32).toInt ≤ (-1) from ⟨by omega, by omega⟩) (show (-1) ≤ ((iv 12 22) : Int32).toInt ∧ ((iv 12 22) : Int32).toInt ≤ (-1) from ⟨by omega, by omega⟩) hJR) (kV 3 ht m_1434 m_1436 m_45 m_89 m_1437 rfl rfl hd_X12_sumUp_v ⟨Nat.le_of_ble_eq_true rfl, Nat.le_of_ble_eq_true rfl⟩) (vW hP hK hD (rM_12 hK hP)) rfl rfl hl.1 rfl (lv_room (Nat.le_of_ble_eq_true rfl)) dX12_span_35 ⟨Nat.le_of_ble_eq_true rfl, Nat.le_of_ble_eq_true rfl⟩) hS (fun q _ h => hFc q h) hFc (fun r6 u t H1 locs ht9 hvm hr6 hB hz1 hk1 hS => ?_)
          obtain ⟨n7, n8, n9, xr6_0, xr6_1, xr6_2, xr6_3, xr6_4, xr6_5, xr6_6, xr6_7, xr6_8, hr6, rfl⟩ := hr6
          obtain ⟨hP, hD⟩ := hB
          rw [ht9] at hP
          generalize H1 = H at hP hS ⊢
          have hP : va_P (dC, dI) classes (WM h g ca (u2 iv 12 19 n7) (u2 (u2 lv 12 17 n8) 12 18 n9) fa la) H := hP
          have hD : va_D A (WM h g ca (u2 iv 12 19 n7) (u2 (u2 lv 12 17 n8) 12 18 n9) fa la) := (show va_D _ (WM h g ca (u2 iv 12 19 n7) (u2 (u2 lv 12 17 n8) 12 18 n9) fa la) from hD).weaken (fun _ _ _ h => hFc _ h)
          have xr6_0 : 0 ≤ (r6 : Int32).toInt := xr6_0
          have xr6_1 : (r6 : Int32).toInt ≤ 60 := xr6_1
          have xr6_2 : 0 ≤ (n9 : Int64).toInt := xr6_2
          have xr6_3 : (n9 : Int64).toInt ≤ 599940 := xr6_3
          have xr6_4 : 100 * (r6 : Int32).toInt ≤ (n9 : Int64).toInt := xr6_4
          have : (0 : Int32).toInt = 0 := (by decide)
          have i_12_3 : 0 ≤ (iv 12 3).toInt ∧ (iv 12 3).toInt ≤ 60 := hI.1 12 3
          have xr6_5 : (n8 : Int64).toInt = (smL (fun s : Nat => ((fa 12 4) s).toInt = (a : Int32).toInt ∧ ((fa 12 5) s).toInt = (0 : Int32).toInt ∧ ((fa 12 11) s).toInt ≤ ((iv 12 0) : Int32).toInt ∧ (((fa 12 12) s).toInt < 0 ∨ ((iv 12 0) : Int32).toInt < ((fa 12 12) s).toInt)) (fa 12 8) (((iv 12 3) : Int32).toInt).toNat).toInt := xr6_5
          have xr6_6 : (n9 : Int64).toInt = (smL (fun s : Nat => ((fa 12 4) s).toInt = (a : Int32).toInt ∧ ((fa 12 5) s).toInt = (0 : Int32).toInt ∧ ((fa 12 11) s).toInt ≤ ((iv 12 0) : Int32).toInt ∧ (((fa 12 12) s).toInt < 0 ∨ ((iv 12 0) : Int32).toInt < ((fa 12 12) s).toInt)) (fa 12 7) (((iv 12 3) : Int32).toInt).toNat).toInt := xr6_6
          have xr6_7 : (n7 : Int32).toInt = (smC (fun s : Nat => ((fa 12 4) s).toInt = (a : Int32).toInt ∧ ((fa 12 5) s).toInt = (0 : Int32).toInt ∧ ((fa 12 11) s).toInt ≤ ((iv 12 0) : Int32).toInt ∧ (((fa 12 12) s).toInt < 0 ∨ ((iv 12 0) : Int32).toInt < ((fa 12 12) s).toInt)) (((iv 12 3) : Int32).toInt).toNat).toInt := xr6_7
          have xr6_8 : (r6 : Int32).toInt = (n7 : Int32).toInt := xr6_8
          have hsd : (n8 : Int64) = sY (fa 12 4) (fa 12 5) (fa 12 11) (fa 12 12) (fa 12 8) a.toInt (iv 12 0).toInt 0 ((iv 12 3).toInt).toNat := by have z9 := xr6_5; rw [show (0 : Int32).toInt = 0 from by decide] at z9; exact Int64.toInt_inj.mp z9
          have hsr : (n9 : Int64) = sY (fa 12 4) (fa 12 5) (fa 12 11) (fa 12 12) (fa 12 7) a.toInt (iv 12 0).toInt 0 ((iv 12 3).toInt).toNat := by have z9 := xr6_6; rw [show (0 : Int32).toInt = 0 from by decide] at z9; exact Int64.toInt_inj.mp z9
          have hsn : (r6 : Int32).toInt = (nY (fa 12 4) (fa 12 5) (fa 12 11) (fa 12 12) a.toInt (iv 12 0).toInt 0 ((iv 12 3).toInt).toNat).toInt := by have z9 := xr6_7; have z8 := xr6_8; rw [show (0 : Int32).toInt = 0 from by decide] at z9; exact z8.trans z9
          refine lv_if_ne (tgt := 45) hx hb dX12_span_38 (by decide) (fun c10 => ?_) (fun c10 => ?_)
          · have fc10 := z_ne (rfl : (r6).toInt = _) (by decide : (0 : Int32).toInt = 0) c10
            refine lv_lconst (v := 0) hx hb dX12_span_45 (by decide) ?_
            refine lv_lstore_n (lv' := [(3, .long 0), (0, .ref h), (1, .int a), (2, .int b)]) hx hb dX12_span_46 rfl hl (by decide) rfl (fun ls hl => ?_)
            refine lv_iconst (v := 0) hx hb dX12_span_47 (by decide) ?_
            refine lv_istore (lv' := [(5, .int 0), (3, .long 0), (0, .ref h), (1, .int a), (2, .int b)]) hx hb dX12_span_48 hl (by decide) rfl (fun ls hl => ?_)
            have i_12_13 : 0 ≤ (iv 12 13).toInt ∧ (iv 12 13).toInt ≤ 30 := hI.1 12 13
            have lp716 : ∀ (nn716 : Nat) (x715_5 : Int32) (x715_3 : Int64), 0 ≤ x715_5.toInt ∧ x715_5.toInt ≤ 60 → ((x715_3 : Int64).toInt = smI (cyP (fa 12 4) (fa 12 5) (fa 12 11) (fa 12 12) (a).toInt (iv 12 0).toInt 0) (fun s : Nat => cl40 (erS (b).toInt (fa 12 15) (tLa (fa 12 14) (fa 12 16) ((fa 12 6) s) ((fa 12 11) s) (((iv 12 13) : Int32).toInt).toNat) (tFi (fa 12 14) (fa 12 16) ((fa 12 6) s) ((fa 12 11) s) (((iv 12 13) : Int32).toInt).toNat))) ((x715_5 : Int32).toInt).toNat) → (x715_5 : Int32).toInt ≤ ((iv 12 3) : Int32).toInt → 60 - x715_5.toInt < (nn716 : Int) → ∀ (H : Heap) (locs : List Loc), ∀ (ls : Array Slot), va_P (dC, dI) classes (WM h g ca (u2 iv 12 19 n7) (u2 (u2 lv 12 17 n8) 12 18 n9) fa la) H → va_D A (WM h g ca (u2 iv 12 19 n7) (u2 (u2 lv 12 17 n8) 12 18 n9) fa la) → va_S A s.heap H locs → lv_has ls 6 [(5, .int x715_5), (3, .long x715_3), (0, .ref h), (1, .int a), (2, .int b)] → W p l e ({ frames := 3, cells := 0, slots := 0, locals := 92 } : Room) s m ([.ref h, .int a, .int b] : List Value).toArray below meth c H locs 0 0 (MQ below (va_Ql (fun r (u : SS) => ∃ (na_12_39 : Nat → Int32) (na_12_40 : Nat → Int32) (ni_12_19 : Int32) (ni_12_41 : Int32) (nl_12_17 : Int64) (nl_12_18 : Int64) (nl_12_46 : Int64) (nl_12_47 : Int64), (∀ j, inb (bA 12 39 j) (na_12_39 j)) ∧ (∀ j, inb (bA 12 40 j) (na_12_40 j)) ∧ inb (bI 12 41) ni_12_41 ∧ (((r.toInt = -100001 ∧ ¬ (0 ≤ a.toInt ∧ a.toInt < (iv 12 1).toInt)) ∨ (r.toInt = -100002 ∧ (0 ≤ a.toInt ∧ a.toInt < (iv 12 1).toInt) ∧ ¬ (0 ≤ b.toInt ∧ b.toInt ≤ 3)) ∨ (r.toInt = -100003 ∧ (0 ≤ a.toInt ∧ a.toInt < (iv 12 1).toInt) ∧ (0 ≤ b.toInt ∧ b.toInt ≤ 3) ∧ (nY (fa 12 4) (fa 12 5) (fa 12 11) (fa 12 12) a.toInt (iv 12 0).toInt 0 ((iv 12 3).toInt).toNat).toInt = 0) ∨ ((0 ≤ a.toInt ∧ a.toInt < (iv 12 1).toInt) ∧ (0 ≤ b.toInt ∧ b.toInt ≤ 3) ∧ (nY (fa 12 4) (fa 12 5) (fa 12 11) (fa 12 12) a.toInt (iv 12 0).toInt 0 ((iv 12 3).toInt).toNat).toInt ≠ 0 ∧ ∃ wt LU LD : Int, FoY (iv 12 23).toInt (fa 12 24) (fa 12 25) (fa 12 26) (fa 12 27) (fa 12 28) 0 (iv 12 0).toInt wt ∧ 0 ≤ wt ∧ LwY ((sY (fa 12 4) (fa 12 5) (fa 12 11) (fa 12 12) (fa 12 8) a.toInt (iv 12 0).toInt 0 ((iv 12 3).toInt).toNat).toInt - smI (cyP (fa 12 4) (fa 12 5) (fa 12 11) (fa 12 12) a.toInt (iv 12 0).toInt 0) (fun s : Nat => cl40 (erS b.toInt (fa 12 15) (tLa (fa 12 14) (fa 12 16) ((fa 12 6) s) ((fa 12 11) s) ((iv 12 13).toInt).toNat) (tFi (fa 12 14) (fa 12 16) ((fa 12 6) s) ((fa 12 11) s) ((iv 12 13).toInt).toNat))) ((iv 12 3).toInt).toNat) ((sY (fa 12 4) (fa 12 5) (fa 12 11) (fa 12 12) (fa 12 7) a.toInt (iv 12 0).toInt 0 ((iv 12 3).toInt).toNat).toInt - smI (cyP (fa 12 4) (fa 12 5) (fa 12 11) (fa 12 12) a.toInt (iv 12 0).toInt 0) (fun s : Nat => cl40 (erS b.toInt (fa 12 15) (tLa (fa 12 14) (fa 12 16) ((fa 12 6) s) ((fa 12 11) s) ((iv 12 13).toInt).toNat) (tFi (fa 12 14) (fa 12 16) ((fa 12 6) s) ((fa 12 11) s) ((iv 12 13).toInt).toNat))) ((iv 12 3).toInt).toNat) (((fa 12 2) (a.toInt).toNat).toInt * (1000 + wt)) LU LD ∧ ltY LU LD (b.toInt % 2) r.toInt))) ∧ (True) ∧ u = ((u2 (u2 iv 12 19 ni_12_19) 12 41 ni_12_41), (u2 (u2 (u2 (u2 lv 12 17 nl_12_17) 12 18 nl_12_18) 12 46 nl_12_46) 12 47 nl_12_47), (u2 (u2 fa 12 39 na_12_39) 12 40 na_12_40), la)) (bM (dC, dI) h g ca A) A) ([.ref h, .int a, .int b] : List Value).toArray s 0 0 A) (F0 m 50 ls []) := by
              intro nn716
              induction nn716 with
              | zero => intro x715_5 x715_3 hx715_5 hq716_0 hq716_1 hm716; exfalso; omega
              | succ nn716 ih716 =>
                intro x715_5 x715_3 hx715_5 hq716_0 hq716_1 hm716 H locs ls hP hD hS hl
                refine lv_iload hx hb dX12_span_50 (lv_at hl 0 rfl) ?_
                refine lv_aload_n hx hb dX12_span_52 rfl (lv_at hl 2 rfl) ?_
                refine gM_12_3 hx hb ht hown hK hP m_1142 (v := (iv 12 3)) rfl dX12_span_53 ?_
                refine lv_icmp_ge (tgt := 134) hx hb dX12_span_56 (by decide) (fun c717 => ?_) (fun c717 => ?_)
                · have fc717 := z_le (rfl : ((iv 12 3)).toInt = _) (rfl : (x715_5).toInt = _) c717
                  refine lv_aload_n hx hb dX12_span_134 rfl (lv_at hl 2 rfl) ?_
                  refine lv_iload_n hx hb dX12_span_135 rfl (lv_at hl 3 rfl) ?_
                  refine lv_aload_n hx hb dX12_span_136 rfl (lv_at hl 2 rfl) ?_
                  refine gM_12_17 hx hb ht hown hK hP m_1156 (v := n8) rfl dX12_span_137 ?_
                  refine lv_lload_n hx hb dX12_span_140 rfl (lv_at hl 1 rfl) ?_
                  refine lv_lsub hx hb dX12_span_141 ?_
                  refine lv_topl (fun w718 ew718 => ?_)
                  refine lv_aload_n hx hb dX12_span_142 rfl (lv_at hl 2 rfl) ?_
                  refine gM_12_18 hx hb ht hown hK hP m_1157 (v := n9) rfl dX12_span_143 ?_
                  refine lv_lload_n hx hb dX12_span_146 rfl (lv_at hl 1 rfl) ?_
                  refine lv_lsub hx hb dX12_span_147 ?_
                  refine lv_topl (fun w719 ew719 => ?_)
                  refine lv_aload_n hx hb dX12_span_148 rfl (lv_at hl 2 rfl) ?_
                  refine gM_12_0 hx hb ht hown hK hP m_1139 (v := (iv 12 0)) rfl dX12_span_149 ?_
                  have hm9 : (iv 12 3).toInt.toNat ≤ 60 := by have q9 : 0 ≤ (iv 12 3).toInt ∧ (iv 12 3).toInt ≤ 60 := hI.1 12 3; omega
                  have hq9 := hq716_0
                  have he9 : (x715_5 : Int32).toInt = (iv 12 3).toInt := by omega
                  rw [he9] at hq9
                  have hl9 := smI_b (c := cyP (fa 12 4) (fa 12 5) (fa 12 11) (fa 12 12) a.toInt (iv 12 0).toInt 0) (f := (fun s : Nat => cl40 (erS b.toInt (fa 12 15) (tLa (fa 12 14) (fa 12 16) ((fa 12 6) s) ((fa 12 11) s) ((iv 12 13).toInt).toNat) (tFi (fa 12 14) (fa 12 16) ((fa 12 6) s) ((fa 12 11) s) ((iv 12 13).toInt).toNat)))) (fun j => cl40_b _) ((iv 12 3).toInt).toNat hm9
                  rw [← hq9] at hl9
                  have hb9 := sY_b (ob := fa 12 4) (ol := fa 12 5) (dy := fa 12 11) (lo := fa 12 12) (ra := fa 12 7) (dr := fa 12 8) (b := a) (l := 0) (d := (iv 12 0).toInt) hm9 (fun s hs => hJD s (by omega)) (hJN a 0)
                  rw [show (0 : Int32).toInt = 0 from by decide] at hb9
                  have hc9 : (smC (cyP (fa 12 4) (fa 12 5) (fa 12 11) (fa 12 12) a.toInt (iv 12 0).toInt 0) ((iv 12 3).toInt).toNat).toInt = (nY (fa 12 4) (fa 12 5) (fa 12 11) (fa 12 12) a.toInt (iv 12 0).toInt 0 ((iv 12 3).toInt).toNat).toInt := rfl
                  rw [hc9] at hl9
                  obtain ⟨hd1, hd2, hd3, hd4, hd5⟩ := hb9
                  have zU9 : (w718 : Int64).toInt = (sY (fa 12 4) (fa 12 5) (fa 12 11) (fa 12 12) (fa 12 8) a.toInt (iv 12 0).toInt 0 ((iv 12 3).toInt).toNat).toInt - (x715_3 : Int64).toInt := l_sub ew718 (congrArg Int64.toInt hsd) rfl (by omega) (by omega)
                  have zL9 : (w719 : Int64).toInt = (sY (fa 12 4) (fa 12 5) (fa 12 11) (fa 12 12) (fa 12 7) a.toInt (iv 12 0).toInt 0 ((iv 12 3).toInt).toNat).toInt - (x715_3 : Int64).toInt := l_sub ew719 (congrArg Int64.toInt hsr) rfl (by omega) (by omega)
                  have i_12_23 : 0 ≤ (iv 12 23).toInt ∧ (iv 12 23).toInt ≤ 8 := hI.1 12 23
                  have hFc := free_all hD hS hA
                  refine va_callv (va_runV (As := [.int a, .long w718, .long w719, .int (iv 12 0)]) (rest := []) ⟨hx, hb, hml, hown, ht⟩ (c_X12_findLawful_w l dC dI H.size h g ca (u2 iv 12 19 n7) (u2 (u2 lv 12 17 n8) 12 18 n9) fa la (IX_i (c := 12) (k := 19) hI (full_i _)) a w718 w719 (iv 12 0) ⟨by omega, by omega⟩ ⟨by omega, by omega⟩ ⟨by omega, by omega⟩ (show (a : Int32).toInt < ((iv 12 1) : Int32).toInt from by omega) hJC hJK hJH hJI) (kV 4 ht m_1563 m_1565 m_63 m_89 m_1566 rfl rfl hd_X12_findLawful_v ⟨Nat.le_of_ble_eq_true rfl, Nat.le_of_ble_eq_true rfl⟩) (vW hP hK hD (rM_12 hK hP)) rfl rfl hl.1 rfl (lv_room (Nat.le_of_ble_eq_true rfl)) dX12_span_152 ⟨Nat.le_of_ble_eq_true rfl, Nat.le_of_ble_eq_true rfl⟩) hS (fun q _ h => hFc q h) hFc (fun u t H1 locs ht9 hvm hr720 hB hz1 hk1 hS => ?_)
                  obtain ⟨n721, n722, n723, n724, n725, hn721, hn722, hn723, xr720_0, rfl⟩ := hr720
                  have hn723 : 0 ≤ n723.toInt ∧ n723.toInt ≤ 8 := hn723
                  obtain ⟨hP, hD⟩ := hB
                  rw [ht9] at hP
                  generalize H1 = H at hP hS ⊢
                  have hP : va_P (dC, dI) classes (WM h g ca (u2 (u2 iv 12 19 n7) 12 41 n723) (u2 (u2 (u2 (u2 lv 12 17 n8) 12 18 n9) 12 46 n724) 12 47 n725) (u2 (u2 fa 12 39 n721) 12 40 n722) la) H := hP
                  have hD : va_D A (WM h g ca (u2 (u2 iv 12 19 n7) 12 41 n723) (u2 (u2 (u2 (u2 lv 12 17 n8) 12 18 n9) 12 46 n724) 12 47 n725) (u2 (u2 fa 12 39 n721) 12 40 n722) la) := (show va_D _ (WM h g ca (u2 (u2 iv 12 19 n7) 12 41 n723) (u2 (u2 (u2 (u2 lv 12 17 n8) 12 18 n9) 12 46 n724) 12 47 n725) (u2 (u2 fa 12 39 n721) 12 40 n722) la) from hD).weaken (fun _ _ _ h => hFc _ h)
                  have xr720_0 : ∃ wt : Int, FoY ((iv 12 23) : Int32).toInt (fa 12 24) (fa 12 25) (fa 12 26) (fa 12 27) (fa 12 28) 0 ((iv 12 0) : Int32).toInt wt ∧ 0 ≤ wt ∧ wt ≤ 300 ∧ LwY (w718 : Int64).toInt (w719 : Int64).toInt (((fa 12 2) ((a : Int32).toInt).toNat).toInt * (1000 + wt)) (n724 : Int64).toInt (n725 : Int64).toInt := xr720_0
                  refine lv_iload_n hx hb dX12_span_155 rfl (lv_at hl 4 rfl) ?_
                  refine lv_iconst (v := 2) hx hb dX12_span_156 (by decide) ?_
                  refine lv_irem hx hb dX12_span_157 (by decide) ?_
                  refine lv_topi (fun v726 ev726 => ?_)
                  have tv726 := z_remp ev726 (rfl : (b).toInt = _) (by decide : (2 : Int32).toInt = 2) (by omega) (by omega)
                  refine lv_if_ne (tgt := 168) hx hb dX12_span_158 (by decide) (fun c727 => ?_) (fun c727 => ?_)
                  · have fc727 := z_ne (rfl : (v726).toInt = _) (by decide : (0 : Int32).toInt = 0) c727
                    refine lv_aload_n hx hb dX12_span_168 rfl (lv_at hl 2 rfl) ?_
                    refine gM_12_47 hx hb ht hown hK hP m_1186 (v := n725) rfl dX12_span_169 ?_
                    have hP9 : va_P (dC, dI) classes (WM h g ca (u2 (u2 iv 12 19 n7) 12 41 n723) (u2 (u2 (u2 (u2 lv 12 17 n8) 12 18 n9) 12 46 n724) 12 47 n725) (u2 (u2 fa 12 39 n721) 12 40 n722) la) H := hP
                    have hD9 : va_D A (WM h g ca (u2 (u2 iv 12 19 n7) 12 41 n723) (u2 (u2 (u2 (u2 lv 12 17 n8) 12 18 n9) 12 46 n724) 12 47 n725) (u2 (u2 fa 12 39 n721) 12 40 n722) la) := hD
                    exact W.lret (v := n725) hx hb hr (fun t ht9 hW => ⟨⟨n725, ((u2 (u2 iv 12 19 n7) 12 41 n723), (u2 (u2 (u2 (u2 lv 12 17 n8) 12 18 n9) 12 46 n724) 12 47 n725), (u2 (u2 fa 12 39 n721) 12 40 n722), la), rfl, ⟨n721, n722, n7, n723, n8, n9, n724, n725, hn721, hn722, (show inb (0, 8) n723 from ⟨by omega, by omega⟩), (show (((n725 : Int64).toInt = -100001 ∧ ¬ (0 ≤ (a).toInt ∧ (a).toInt < (iv 12 1).toInt)) ∨ ((n725 : Int64).toInt = -100002 ∧ (0 ≤ (a).toInt ∧ (a).toInt < (iv 12 1).toInt) ∧ ¬ (0 ≤ (b).toInt ∧ (b).toInt ≤ 3)) ∨ ((n725 : Int64).toInt = -100003 ∧ (0 ≤ (a).toInt ∧ (a).toInt < (iv 12 1).toInt) ∧ (0 ≤ (b).toInt ∧ (b).toInt ≤ 3) ∧ (nY (fa 12 4) (fa 12 5) (fa 12 11) (fa 12 12) (a).toInt (iv 12 0).toInt 0 ((iv 12 3).toInt).toNat).toInt = 0) ∨ ((0 ≤ (a).toInt ∧ (a).toInt < (iv 12 1).toInt) ∧ (0 ≤ (b).toInt ∧ (b).toInt ≤ 3) ∧ (nY (fa 12 4) (fa 12 5) (fa 12 11) (fa 12 12) (a).toInt (iv 12 0).toInt 0 ((iv 12 3).toInt).toNat).toInt ≠ 0 ∧ ∃ wt LU LD : Int, FoY (iv 12 23).toInt (fa 12 24) (fa 12 25) (fa 12 26) (fa 12 27) (fa 12 28) 0 (iv 12 0).toInt wt ∧ 0 ≤ wt ∧ LwY ((sY (fa 12 4) (fa 12 5) (fa 12 11) (fa 12 12) (fa 12 8) (a).toInt (iv 12 0).toInt 0 ((iv 12 3).toInt).toNat).toInt - smI (cyP (fa 12 4) (fa 12 5) (fa 12 11) (fa 12 12) (a).toInt (iv 12 0).toInt 0) (fun s : Nat => cl40 (erS (b).toInt (fa 12 15) (tLa (fa 12 14) (fa 12 16) ((fa 12 6) s) ((fa 12 11) s) ((iv 12 13).toInt).toNat) (tFi (fa 12 14) (fa 12 16) ((fa 12 6) s) ((fa 12 11) s) ((iv 12 13).toInt).toNat))) ((iv 12 3).toInt).toNat) ((sY (fa 12 4) (fa 12 5) (fa 12 11) (fa 12 12) (fa 12 7) (a).toInt (iv 12 0).toInt 0 ((iv 12 3).toInt).toNat).toInt - smI (cyP (fa 12 4) (fa 12 5) (fa 12 11) (fa 12 12) (a).toInt (iv 12 0).toInt 0) (fun s : Nat => cl40 (erS (b).toInt (fa 12 15) (tLa (fa 12 14) (fa 12 16) ((fa 12 6) s) ((fa 12 11) s) ((iv 12 13).toInt).toNat) (tFi (fa 12 14) (fa 12 16) ((fa 12 6) s) ((fa 12 11) s) ((iv 12 13).toInt).toNat))) ((iv 12 3).toInt).toNat) (((fa 12 2) ((a).toInt).toNat).toInt * (1000 + wt)) LU LD ∧ ltY LU LD ((b).toInt % 2) (n725 : Int64).toInt)) from (by obtain ⟨wt9, k1, k2, k3, k4⟩ := xr720_0; rw [zU9, zL9, hq9] at k4; exact Or.inr (Or.inr (Or.inr ⟨⟨by omega, by omega⟩, ⟨by omega, by omega⟩, by omega, wt9, _, _, k1, k2, k4, (by unfold ltY; omega)⟩)))), trivial, rfl⟩, by rw [ht9]; exact hP9, hD9⟩, hS.F ht9⟩) hS.2.2 dX12_span_172
                  · have fc727 := z_eq (rfl : (v726).toInt = _) (by decide : (0 : Int32).toInt = 0) c727
                    refine lv_aload_n hx hb dX12_span_161 rfl (lv_at hl 2 rfl) ?_
                    refine gM_12_46 hx hb ht hown hK hP m_1185 (v := n724) rfl dX12_span_162 ?_
                    refine lv_goto (tgt := 172) hx hb dX12_span_165 (by decide) ?_
                    have hP9 : va_P (dC, dI) classes (WM h g ca (u2 (u2 iv 12 19 n7) 12 41 n723) (u2 (u2 (u2 (u2 lv 12 17 n8) 12 18 n9) 12 46 n724) 12 47 n725) (u2 (u2 fa 12 39 n721) 12 40 n722) la) H := hP
                    have hD9 : va_D A (WM h g ca (u2 (u2 iv 12 19 n7) 12 41 n723) (u2 (u2 (u2 (u2 lv 12 17 n8) 12 18 n9) 12 46 n724) 12 47 n725) (u2 (u2 fa 12 39 n721) 12 40 n722) la) := hD
                    exact W.lret (v := n724) hx hb hr (fun t ht9 hW => ⟨⟨n724, ((u2 (u2 iv 12 19 n7) 12 41 n723), (u2 (u2 (u2 (u2 lv 12 17 n8) 12 18 n9) 12 46 n724) 12 47 n725), (u2 (u2 fa 12 39 n721) 12 40 n722), la), rfl, ⟨n721, n722, n7, n723, n8, n9, n724, n725, hn721, hn722, (show inb (0, 8) n723 from ⟨by omega, by omega⟩), (show (((n724 : Int64).toInt = -100001 ∧ ¬ (0 ≤ (a).toInt ∧ (a).toInt < (iv 12 1).toInt)) ∨ ((n724 : Int64).toInt = -100002 ∧ (0 ≤ (a).toInt ∧ (a).toInt < (iv 12 1).toInt) ∧ ¬ (0 ≤ (b).toInt ∧ (b).toInt ≤ 3)) ∨ ((n724 : Int64).toInt = -100003 ∧ (0 ≤ (a).toInt ∧ (a).toInt < (iv 12 1).toInt) ∧ (0 ≤ (b).toInt ∧ (b).toInt ≤ 3) ∧ (nY (fa 12 4) (fa 12 5) (fa 12 11) (fa 12 12) (a).toInt (iv 12 0).toInt 0 ((iv 12 3).toInt).toNat).toInt = 0) ∨ ((0 ≤ (a).toInt ∧ (a).toInt < (iv 12 1).toInt) ∧ (0 ≤ (b).toInt ∧ (b).toInt ≤ 3) ∧ (nY (fa 12 4) (fa 12 5) (fa 12 11) (fa 12 12) (a).toInt (iv 12 0).toInt 0 ((iv 12 3).toInt).toNat).toInt ≠ 0 ∧ ∃ wt LU LD : Int, FoY (iv 12 23).toInt (fa 12 24) (fa 12 25) (fa 12 26) (fa 12 27) (fa 12 28) 0 (iv 12 0).toInt wt ∧ 0 ≤ wt ∧ LwY ((sY (fa 12 4) (fa 12 5) (fa 12 11) (fa 12 12) (fa 12 8) (a).toInt (iv 12 0).toInt 0 ((iv 12 3).toInt).toNat).toInt - smI (cyP (fa 12 4) (fa 12 5) (fa 12 11) (fa 12 12) (a).toInt (iv 12 0).toInt 0) (fun s : Nat => cl40 (erS (b).toInt (fa 12 15) (tLa (fa 12 14) (fa 12 16) ((fa 12 6) s) ((fa 12 11) s) ((iv 12 13).toInt).toNat) (tFi (fa 12 14) (fa 12 16) ((fa 12 6) s) ((fa 12 11) s) ((iv 12 13).toInt).toNat))) ((iv 12 3).toInt).toNat) ((sY (fa 12 4) (fa 12 5) (fa 12 11) (fa 12 12) (fa 12 7) (a).toInt (iv 12 0).toInt 0 ((iv 12 3).toInt).toNat).toInt - smI (cyP (fa 12 4) (fa 12 5) (fa 12 11) (fa 12 12) (a).toInt (iv 12 0).toInt 0) (fun s : Nat => cl40 (erS (b).toInt (fa 12 15) (tLa (fa 12 14) (fa 12 16) ((fa 12 6) s) ((fa 12 11) s) ((iv 12 13).toInt).toNat) (tFi (fa 12 14) (fa 12 16) ((fa 12 6) s) ((fa 12 11) s) ((iv 12 13).toInt).toNat))) ((iv 12 3).toInt).toNat) (((fa 12 2) ((a).toInt).toNat).toInt * (1000 + wt)) LU LD ∧ ltY LU LD ((b).toInt % 2) (n724 : Int64).toInt)) from (by obtain ⟨wt9, k1, k2, k3, k4⟩ := xr720_0; rw [zU9, zL9, hq9] at k4; exact Or.inr (Or.inr (Or.inr ⟨⟨by omega, by omega⟩, ⟨by omega, by omega⟩, by omega, wt9, _, _, k1, k2, k4, (by unfold ltY; omega)⟩)))), trivial, rfl⟩, by rw [ht9]; exact hP9, hD9⟩, hS.F ht9⟩) hS.2.2 dX12_span_172
                · have fc717 := z_nle (rfl : ((iv 12 3)).toInt = _) (rfl : (x715_5).toInt = _) c717
                  refine lv_aload_n hx hb dX12_span_59 rfl (lv_at hl 2 rfl) ?_
                  refine gM_12_4 hx hb ht hown hK hP m_1143 dX12_span_60 ?_
                  refine lv_iload hx hb dX12_span_63 (lv_at hl 0 rfl) ?_
                  refine lM_12_4 hx hb hK hP (f := (fa 12 4)) rfl (vp_in_iff.mpr ⟨by omega, by omega⟩) dX12_span_65 ?_
                  refine lv_topi (fun v728 ev728 => ?_)
                  refine lv_iload_n hx hb dX12_span_66 rfl (lv_at hl 3 rfl) ?_
                  refine lv_icmp_ne (tgt := 128) hx hb dX12_span_67 (by decide) (fun c729 => ?_) (fun c729 => ?_)
                  · have fc729 := z_ne (rfl : (v728).toInt = _) (rfl : (a).toInt = _) c729
                    obtain ⟨v730, ev730⟩ : ∃ y : Int32, y = x715_5 + 1 := ⟨_, rfl⟩
                    have tv730 := z_add ev730 rfl (by decide : (1 : Int32).toInt = 1) (by omega) (by omega)
                    refine lv_iinc (v := v730) (lv' := [(5, .int v730), (3, .long x715_3), (0, .ref h), (1, .int a), (2, .int b)]) hx hb dX12_span_128 hl (k := 0) rfl (by rw [ev730]; rfl) (by decide) rfl (fun ls hl => ?_)
                    refine lv_goto (tgt := 50) hx hb dX12_span_131 (by decide) ?_
                    exact ih716 v730 x715_3 ⟨by omega, by omega⟩ (show (x715_3 : Int64).toInt = smI (cyP (fa 12 4) (fa 12 5) (fa 12 11) (fa 12 12) (a).toInt (iv 12 0).toInt 0) (fun s : Nat => cl40 (erS (b).toInt (fa 12 15) (tLa (fa 12 14) (fa 12 16) ((fa 12 6) s) ((fa 12 11) s) (((iv 12 13) : Int32).toInt).toNat) (tFi (fa 12 14) (fa 12 16) ((fa 12 6) s) ((fa 12 11) s) (((iv 12 13) : Int32).toInt).toNat))) ((v730 : Int32).toInt).toNat from (by
                          have hs9 : ((v730 : Int32).toInt).toNat = ((x715_5 : Int32).toInt).toNat + 1 := by omega
                          have hq9 := hq716_0
                          have z9_4 := congrArg Int32.toInt (show v728 = fa 12 4 ((x715_5 : Int32).toInt).toNat from ev728)
                          rw [smI_n hs9 (show ¬ (((fa 12 4) ((x715_5 : Int32).toInt).toNat).toInt = a.toInt ∧ ((fa 12 5) ((x715_5 : Int32).toInt).toNat).toInt = 0 ∧ ((fa 12 11) ((x715_5 : Int32).toInt).toNat).toInt ≤ (iv 12 0).toInt ∧ (((fa 12 12) ((x715_5 : Int32).toInt).toNat).toInt < 0 ∨ (iv 12 0).toInt < ((fa 12 12) ((x715_5 : Int32).toInt).toNat).toInt)) from by omega)]; exact hq9)) (show (v730 : Int32).toInt ≤ ((iv 12 3) : Int32).toInt from by omega) (by omega) _ _ ls hP hD hS (lv_sub hl [0, 1, 2, 3, 4] rfl)
                  · have fc729 := z_eq (rfl : (v728).toInt = _) (rfl : (a).toInt = _) c729
                    refine lv_aload_n hx hb dX12_span_70 rfl (lv_at hl 2 rfl) ?_
                    refine gM_12_5 hx hb ht hown hK hP m_1144 dX12_span_71 ?_
                    refine lv_iload hx hb dX12_span_74 (lv_at hl 0 rfl) ?_
                    refine lM_12_5 hx hb hK hP (f := (fa 12 5)) rfl (vp_in_iff.mpr ⟨by omega, by omega⟩) dX12_span_76 ?_
                    refine lv_topi (fun v731 ev731 => ?_)
                    refine lv_if_ne (tgt := 128) hx hb dX12_span_77 (by decide) (fun c732 => ?_) (fun c732 => ?_)
                    · have fc732 := z_ne (rfl : (v731).toInt = _) (by decide : (0 : Int32).toInt = 0) c732
                      obtain ⟨v733, ev733⟩ : ∃ y : Int32, y = x715_5 + 1 := ⟨_, rfl⟩
                      have tv733 := z_add ev733 rfl (by decide : (1 : Int32).toInt = 1) (by omega) (by omega)
                      refine lv_iinc (v := v733) (lv' := [(5, .int v733), (3, .long x715_3), (0, .ref h), (1, .int a), (2, .int b)]) hx hb dX12_span_128 hl (k := 0) rfl (by rw [ev733]; rfl) (by decide) rfl (fun ls hl => ?_)
                      refine lv_goto (tgt := 50) hx hb dX12_span_131 (by decide) ?_
                      exact ih716 v733 x715_3 ⟨by omega, by omega⟩ (show (x715_3 : Int64).toInt = smI (cyP (fa 12 4) (fa 12 5) (fa 12 11) (fa 12 12) (a).toInt (iv 12 0).toInt 0) (fun s : Nat => cl40 (erS (b).toInt (fa 12 15) (tLa (fa 12 14) (fa 12 16) ((fa 12 6) s) ((fa 12 11) s) (((iv 12 13) : Int32).toInt).toNat) (tFi (fa 12 14) (fa 12 16) ((fa 12 6) s) ((fa 12 11) s) (((iv 12 13) : Int32).toInt).toNat))) ((v733 : Int32).toInt).toNat from (by
                            have hs9 : ((v733 : Int32).toInt).toNat = ((x715_5 : Int32).toInt).toNat + 1 := by omega
                            have hq9 := hq716_0
                            have z9_4 := congrArg Int32.toInt (show v728 = fa 12 4 ((x715_5 : Int32).toInt).toNat from ev728)
                            have z9_5 := congrArg Int32.toInt (show v731 = fa 12 5 ((x715_5 : Int32).toInt).toNat from ev731)
                            rw [smI_n hs9 (show ¬ (((fa 12 4) ((x715_5 : Int32).toInt).toNat).toInt = a.toInt ∧ ((fa 12 5) ((x715_5 : Int32).toInt).toNat).toInt = 0 ∧ ((fa 12 11) ((x715_5 : Int32).toInt).toNat).toInt ≤ (iv 12 0).toInt ∧ (((fa 12 12) ((x715_5 : Int32).toInt).toNat).toInt < 0 ∨ (iv 12 0).toInt < ((fa 12 12) ((x715_5 : Int32).toInt).toNat).toInt)) from by omega)]; exact hq9)) (show (v733 : Int32).toInt ≤ ((iv 12 3) : Int32).toInt from by omega) (by omega) _ _ ls hP hD hS (lv_sub hl [0, 1, 2, 3, 4] rfl)
                    · have fc732 := z_eq (rfl : (v731).toInt = _) (by decide : (0 : Int32).toInt = 0) c732
                      refine lv_aload_n hx hb dX12_span_80 rfl (lv_at hl 2 rfl) ?_
                      refine lv_iload hx hb dX12_span_81 (lv_at hl 0 rfl) ?_
                      refine lv_aload_n hx hb dX12_span_83 rfl (lv_at hl 2 rfl) ?_
                      refine gM_12_0 hx hb ht hown hK hP m_1139 (v := (iv 12 0)) rfl dX12_span_84 ?_
                      refine vp_callSi (W.runV (As := [.int x715_5, .int (iv 12 0)]) (rest := []) ⟨hx, hb, hml, hown, ht⟩ (c_X12_isThere_x l dC dI h g ca (u2 iv 12 19 n7) (u2 (u2 lv 12 17 n8) 12 18 n9) fa la (IX_i (c := 12) (k := 19) hI (full_i _)) x715_5 (iv 12 0) ⟨by omega, by omega⟩) (kV 2 ht m_1438 m_1440 m_46 m_89 m_1441 rfl rfl hd_X12_isThere_v ⟨Nat.le_of_ble_eq_true rfl, Nat.le_of_ble_eq_true rfl⟩) (vR hP hK (rM_12 hK hP)) rfl rfl hl.1 rfl (lv_room (Nat.le_of_ble_eq_true rfl)) dX12_span_87 ⟨Nat.le_of_ble_eq_true rfl, Nat.le_of_ble_eq_true rfl⟩) (fun r734 hr734 => ?_)
                      obtain ⟨hr734, xr734_0⟩ := hr734
                      have xr734_0 : (((r734 : Int32).toInt = 1 ∧ ((fa 12 11) (x715_5 : Int32).toNatClampNeg).toInt ≤ ((iv 12 0) : Int32).toInt ∧ (((fa 12 12) (x715_5 : Int32).toNatClampNeg).toInt < 0 ∨ ((iv 12 0) : Int32).toInt < ((fa 12 12) (x715_5 : Int32).toNatClampNeg).toInt)) ∨ ((r734 : Int32).toInt = 0 ∧ ¬ (((fa 12 11) (x715_5 : Int32).toNatClampNeg).toInt ≤ ((iv 12 0) : Int32).toInt ∧ (((fa 12 12) (x715_5 : Int32).toNatClampNeg).toInt < 0 ∨ ((iv 12 0) : Int32).toInt < ((fa 12 12) (x715_5 : Int32).toNatClampNeg).toInt)))) := xr734_0
                      refine lv_if_eq (tgt := 128) hx hb dX12_span_90 (by decide) (fun c735 => ?_) (fun c735 => ?_)
                      · have fc735 := z_eq (rfl : (r734).toInt = _) (by decide : (0 : Int32).toInt = 0) c735
                        obtain ⟨v736, ev736⟩ : ∃ y : Int32, y = x715_5 + 1 := ⟨_, rfl⟩
                        have tv736 := z_add ev736 rfl (by decide : (1 : Int32).toInt = 1) (by omega) (by omega)
                        refine lv_iinc (v := v736) (lv' := [(5, .int v736), (3, .long x715_3), (0, .ref h), (1, .int a), (2, .int b)]) hx hb dX12_span_128 hl (k := 0) rfl (by rw [ev736]; rfl) (by decide) rfl (fun ls hl => ?_)
                        refine lv_goto (tgt := 50) hx hb dX12_span_131 (by decide) ?_
                        exact ih716 v736 x715_3 ⟨by omega, by omega⟩ (show (x715_3 : Int64).toInt = smI (cyP (fa 12 4) (fa 12 5) (fa 12 11) (fa 12 12) (a).toInt (iv 12 0).toInt 0) (fun s : Nat => cl40 (erS (b).toInt (fa 12 15) (tLa (fa 12 14) (fa 12 16) ((fa 12 6) s) ((fa 12 11) s) (((iv 12 13) : Int32).toInt).toNat) (tFi (fa 12 14) (fa 12 16) ((fa 12 6) s) ((fa 12 11) s) (((iv 12 13) : Int32).toInt).toNat))) ((v736 : Int32).toInt).toNat from (by
                              have hs9 : ((v736 : Int32).toInt).toNat = ((x715_5 : Int32).toInt).toNat + 1 := by omega
                              have hq9 := hq716_0
                              have z9_4 := congrArg Int32.toInt (show v728 = fa 12 4 ((x715_5 : Int32).toInt).toNat from ev728)
                              have z9_5 := congrArg Int32.toInt (show v731 = fa 12 5 ((x715_5 : Int32).toInt).toNat from ev731)
                              have y9 : ((r734 : Int32).toInt = 1 ∧ (fa 12 11 ((x715_5 : Int32).toInt).toNat).toInt ≤ ((iv 12 0) : Int32).toInt ∧ ((fa 12 12 ((x715_5 : Int32).toInt).toNat).toInt < 0 ∨ ((iv 12 0) : Int32).toInt < (fa 12 12 ((x715_5 : Int32).toInt).toNat).toInt)) ∨ ((r734 : Int32).toInt = 0 ∧ ¬ ((fa 12 11 ((x715_5 : Int32).toInt).toNat).toInt ≤ ((iv 12 0) : Int32).toInt ∧ ((fa 12 12 ((x715_5 : Int32).toInt).toNat).toInt < 0 ∨ ((iv 12 0) : Int32).toInt < (fa 12 12 ((x715_5 : Int32).toInt).toNat).toInt))) := xr734_0
                              rw [smI_n hs9 (show ¬ (((fa 12 4) ((x715_5 : Int32).toInt).toNat).toInt = a.toInt ∧ ((fa 12 5) ((x715_5 : Int32).toInt).toNat).toInt = 0 ∧ ((fa 12 11) ((x715_5 : Int32).toInt).toNat).toInt ≤ (iv 12 0).toInt ∧ (((fa 12 12) ((x715_5 : Int32).toInt).toNat).toInt < 0 ∨ (iv 12 0).toInt < ((fa 12 12) ((x715_5 : Int32).toInt).toNat).toInt)) from by omega)]; exact hq9)) (show (v736 : Int32).toInt ≤ ((iv 12 3) : Int32).toInt from by omega) (by omega) _ _ ls hP hD hS (lv_sub hl [0, 1, 2, 3, 4] rfl)
                      · have fc735 := z_ne (rfl : (r734).toInt = _) (by decide : (0 : Int32).toInt = 0) c735
                        refine lv_lload_n hx hb dX12_span_93 rfl (lv_at hl 1 rfl) ?_
                        refine lv_aload_n hx hb dX12_span_94 rfl (lv_at hl 2 rfl) ?_
                        refine lv_aload_n hx hb dX12_span_95 rfl (lv_at hl 2 rfl) ?_
                        refine gM_12_6 hx hb ht hown hK hP m_1145 dX12_span_96 ?_
                        refine lv_iload hx hb dX12_span_99 (lv_at hl 0 rfl) ?_
                        refine lM_12_6 hx hb hK hP (f := (fa 12 6)) rfl (vp_in_iff.mpr ⟨by omega, by omega⟩) dX12_span_101 ?_
                        refine lv_topi (fun v737 ev737 => ?_)
                        refine lv_aload_n hx hb dX12_span_102 rfl (lv_at hl 2 rfl) ?_
                        refine gM_12_11 hx hb ht hown hK hP m_1150 dX12_span_103 ?_
                        refine lv_iload hx hb dX12_span_106 (lv_at hl 0 rfl) ?_
                        refine lM_12_11 hx hb hK hP (f := (fa 12 11)) rfl (vp_in_iff.mpr ⟨by omega, by omega⟩) dX12_span_108 ?_
                        refine lv_topi (fun v738 ev738 => ?_)
                        refine lv_iload_n hx hb dX12_span_109 rfl (lv_at hl 4 rfl) ?_
                        refine lv_iconst (v := 2) hx hb dX12_span_110 (by decide) ?_
                        refine lv_icmp_ge (tgt := 118) hx hb dX12_span_111 (by decide) (fun c739 => ?_) (fun c739 => ?_)
                        · have fc739 := z_le (by decide : (2 : Int32).toInt = 2) (rfl : (b).toInt = _) c739
                          refine lv_iconst (v := 0) hx hb dX12_span_118 (by decide) ?_
                          refine vp_callSi (W.runV (As := [.int v737, .int v738, .int 0]) (rest := [.long x715_3]) ⟨hx, hb, hml, hown, ht⟩ (c_X12_errorOf_x0 l dC dI h g ca (u2 iv 12 19 n7) (u2 (u2 lv 12 17 n8) 12 18 n9) fa la (IX_i (c := 12) (k := 19) hI (full_i _)) v737 v738) (kV 3 ht m_1426 m_1428 m_44 m_89 m_1429 rfl rfl hd_X12_errorOf_v ⟨Nat.le_of_ble_eq_true rfl, Nat.le_of_ble_eq_true rfl⟩) (vR hP hK (rM_12 hK hP)) rfl rfl hl.1 rfl (lv_room (Nat.le_of_ble_eq_true rfl)) dX12_span_119 ⟨Nat.le_of_ble_eq_true rfl, Nat.le_of_ble_eq_true rfl⟩) (fun r740 hr740 => ?_)
                          obtain ⟨hr740, xr740_0⟩ := hr740
                          have xr740_0 : (r740 : Int32).toInt = er0 (fa 12 15) (tLa (fa 12 14) (fa 12 16) (v737 : Int32) (v738 : Int32) (((iv 12 13) : Int32).toInt).toNat) (tFi (fa 12 14) (fa 12 16) (v737 : Int32) (v738 : Int32) (((iv 12 13) : Int32).toInt).toNat) := xr740_0
                          refine vp_callSi (W.runS (As := [.int r740]) (rest := [.long x715_3]) ⟨hx, hb, hml, hown, ht⟩ (c_X12_held_w l dC dI r740) (kS 1 ht m_1571 m_1572 m_89 m_1573 rfl rfl hd_X12_held_v ⟨Nat.le_of_ble_eq_true rfl, Nat.le_of_ble_eq_true rfl⟩) (sR noP (hK.sub (tys' := []) [] rfl)) rfl rfl hl.1 rfl (lv_room (Nat.le_of_ble_eq_true rfl)) dX12_span_122 ⟨Nat.le_of_ble_eq_true rfl, Nat.le_of_ble_eq_true rfl⟩) (fun r741 hr741 => ?_)
                          obtain ⟨hr741, xr741_0⟩ := hr741
                          have xr741_0 : (r741 : Int32).toInt = cl40 (r740 : Int32).toInt := xr741_0
                          refine lv_i2l (v := (r741.toInt64)) hx hb dX12_span_125 rfl ?_
                          refine lv_ladd hx hb dX12_span_126 ?_
                          refine lv_topl (fun w742 ew742 => ?_)
                          refine lv_lstore_n (lv' := [(3, .long w742), (5, .int x715_5), (0, .ref h), (1, .int a), (2, .int b)]) hx hb dX12_span_127 rfl hl (by decide) rfl (fun ls hl => ?_)
                          obtain ⟨v743, ev743⟩ : ∃ y : Int32, y = x715_5 + 1 := ⟨_, rfl⟩
                          have tv743 := z_add ev743 rfl (by decide : (1 : Int32).toInt = 1) (by omega) (by omega)
                          refine lv_iinc (v := v743) (lv' := [(5, .int v743), (3, .long w742), (0, .ref h), (1, .int a), (2, .int b)]) hx hb dX12_span_128 hl (k := 1) rfl (by rw [ev743]; rfl) (by decide) rfl (fun ls hl => ?_)
                          refine lv_goto (tgt := 50) hx hb dX12_span_131 (by decide) ?_
                          exact ih716 v743 w742 ⟨by omega, by omega⟩ (show (w742 : Int64).toInt = smI (cyP (fa 12 4) (fa 12 5) (fa 12 11) (fa 12 12) (a).toInt (iv 12 0).toInt 0) (fun s : Nat => cl40 (erS (b).toInt (fa 12 15) (tLa (fa 12 14) (fa 12 16) ((fa 12 6) s) ((fa 12 11) s) (((iv 12 13) : Int32).toInt).toNat) (tFi (fa 12 14) (fa 12 16) ((fa 12 6) s) ((fa 12 11) s) (((iv 12 13) : Int32).toInt).toNat))) ((v743 : Int32).toInt).toNat from (by
                                have hs9 : ((v743 : Int32).toInt).toNat = ((x715_5 : Int32).toInt).toNat + 1 := by omega
                                have hq9 := hq716_0
                                have z9_4 := congrArg Int32.toInt (show v728 = fa 12 4 ((x715_5 : Int32).toInt).toNat from ev728)
                                have z9_5 := congrArg Int32.toInt (show v731 = fa 12 5 ((x715_5 : Int32).toInt).toNat from ev731)
                                have y9 : ((r734 : Int32).toInt = 1 ∧ (fa 12 11 ((x715_5 : Int32).toInt).toNat).toInt ≤ ((iv 12 0) : Int32).toInt ∧ ((fa 12 12 ((x715_5 : Int32).toInt).toNat).toInt < 0 ∨ ((iv 12 0) : Int32).toInt < (fa 12 12 ((x715_5 : Int32).toInt).toNat).toInt)) ∨ ((r734 : Int32).toInt = 0 ∧ ¬ ((fa 12 11 ((x715_5 : Int32).toInt).toNat).toInt ≤ ((iv 12 0) : Int32).toInt ∧ ((fa 12 12 ((x715_5 : Int32).toInt).toNat).toInt < 0 ∨ ((iv 12 0) : Int32).toInt < (fa 12 12 ((x715_5 : Int32).toInt).toNat).toInt))) := xr734_0
                                have ha9 : v737 = fa 12 6 ((x715_5 : Int32).toInt).toNat := ev737
                                have hb9 : v738 = fa 12 11 ((x715_5 : Int32).toInt).toNat := ev738
                                have he9 := xr740_0
                                rw [ha9, hb9] at he9
                                have hv9 := xr741_0
                                rw [he9] at hv9
                                have hl9 := smI_b (c := cyP (fa 12 4) (fa 12 5) (fa 12 11) (fa 12 12) a.toInt (iv 12 0).toInt 0) (f := (fun s : Nat => cl40 (erS b.toInt (fa 12 15) (tLa (fa 12 14) (fa 12 16) ((fa 12 6) s) ((fa 12 11) s) ((iv 12 13).toInt).toNat) (tFi (fa 12 14) (fa 12 16) ((fa 12 6) s) ((fa 12 11) s) ((iv 12 13).toInt).toNat)))) (fun j => cl40_b _) ((x715_5 : Int32).toInt).toNat (by omega)
                                rw [← hq9] at hl9
                                have hz9 := cl40_b (er0 (fa 12 15) (tLa (fa 12 14) (fa 12 16) (fa 12 6 ((x715_5 : Int32).toInt).toNat) (fa 12 11 ((x715_5 : Int32).toInt).toNat) ((iv 12 13).toInt).toNat) (tFi (fa 12 14) (fa 12 16) (fa 12 6 ((x715_5 : Int32).toInt).toNat) (fa 12 11 ((x715_5 : Int32).toInt).toNat) ((iv 12 13).toInt).toNat))
                                rw [← hv9] at hz9
                                have hp9 : (w742 : Int64).toInt = _ := l_add ew742 rfl (Int32.toInt_toInt64 r741) (by omega) (by omega)
                                rw [smI_y hs9 (show ((fa 12 4) ((x715_5 : Int32).toInt).toNat).toInt = a.toInt ∧ ((fa 12 5) ((x715_5 : Int32).toInt).toNat).toInt = 0 ∧ ((fa 12 11) ((x715_5 : Int32).toInt).toNat).toInt ≤ (iv 12 0).toInt ∧ (((fa 12 12) ((x715_5 : Int32).toInt).toNat).toInt < 0 ∨ (iv 12 0).toInt < ((fa 12 12) ((x715_5 : Int32).toInt).toNat).toInt) from ⟨by omega, by omega, by omega, by omega⟩), ← hq9, hp9, hv9, erS_0 (by omega)])) (show (v743 : Int32).toInt ≤ ((iv 12 3) : Int32).toInt from by omega) (by omega) _ _ ls hP hD hS (lv_sub hl [0, 1, 2, 3, 4] rfl)
                        · have fc739 := z_nle (by decide : (2 : Int32).toInt = 2) (rfl : (b).toInt = _) c739
                          refine lv_iconst (v := 1) hx hb dX12_span_114 (by decide) ?_
                          refine lv_goto (tgt := 119) hx hb dX12_span_115 (by decide) ?_
                          refine vp_callSi (W.runV (As := [.int v737, .int v738, .int 1]) (rest := [.long x715_3]) ⟨hx, hb, hml, hown, ht⟩ (c_X12_errorOf_x1 l dC dI h g ca (u2 iv 12 19 n7) (u2 (u2 lv 12 17 n8) 12 18 n9) fa la (IX_i (c := 12) (k := 19) hI (full_i _)) v737 v738) (kV 3 ht m_1426 m_1428 m_44 m_89 m_1429 rfl rfl hd_X12_errorOf_v ⟨Nat.le_of_ble_eq_true rfl, Nat.le_of_ble_eq_true rfl⟩) (vR hP hK (rM_12 hK hP)) rfl rfl hl.1 rfl (lv_room (Nat.le_of_ble_eq_true rfl)) dX12_span_119 ⟨Nat.le_of_ble_eq_true rfl, Nat.le_of_ble_eq_true rfl⟩) (fun r744 hr744 => ?_)
                          obtain ⟨hr744, xr744_0⟩ := hr744
                          have xr744_0 : (r744 : Int32).toInt = er1 (fa 12 15) (tLa (fa 12 14) (fa 12 16) (v737 : Int32) (v738 : Int32) (((iv 12 13) : Int32).toInt).toNat) (tFi (fa 12 14) (fa 12 16) (v737 : Int32) (v738 : Int32) (((iv 12 13) : Int32).toInt).toNat) := xr744_0
                          refine vp_callSi (W.runS (As := [.int r744]) (rest := [.long x715_3]) ⟨hx, hb, hml, hown, ht⟩ (c_X12_held_w l dC dI r744) (kS 1 ht m_1571 m_1572 m_89 m_1573 rfl rfl hd_X12_held_v ⟨Nat.le_of_ble_eq_true rfl, Nat.le_of_ble_eq_true rfl⟩) (sR noP (hK.sub (tys' := []) [] rfl)) rfl rfl hl.1 rfl (lv_room (Nat.le_of_ble_eq_true rfl)) dX12_span_122 ⟨Nat.le_of_ble_eq_true rfl, Nat.le_of_ble_eq_true rfl⟩) (fun r745 hr745 => ?_)
                          obtain ⟨hr745, xr745_0⟩ := hr745
                          have xr745_0 : (r745 : Int32).toInt = cl40 (r744 : Int32).toInt := xr745_0
                          refine lv_i2l (v := (r745.toInt64)) hx hb dX12_span_125 rfl ?_
                          refine lv_ladd hx hb dX12_span_126 ?_
                          refine lv_topl (fun w746 ew746 => ?_)
                          refine lv_lstore_n (lv' := [(3, .long w746), (5, .int x715_5), (0, .ref h), (1, .int a), (2, .int b)]) hx hb dX12_span_127 rfl hl (by decide) rfl (fun ls hl => ?_)
                          obtain ⟨v747, ev747⟩ : ∃ y : Int32, y = x715_5 + 1 := ⟨_, rfl⟩
                          have tv747 := z_add ev747 rfl (by decide : (1 : Int32).toInt = 1) (by omega) (by omega)
                          refine lv_iinc (v := v747) (lv' := [(5, .int v747), (3, .long w746), (0, .ref h), (1, .int a), (2, .int b)]) hx hb dX12_span_128 hl (k := 1) rfl (by rw [ev747]; rfl) (by decide) rfl (fun ls hl => ?_)
                          refine lv_goto (tgt := 50) hx hb dX12_span_131 (by decide) ?_
                          exact ih716 v747 w746 ⟨by omega, by omega⟩ (show (w746 : Int64).toInt = smI (cyP (fa 12 4) (fa 12 5) (fa 12 11) (fa 12 12) (a).toInt (iv 12 0).toInt 0) (fun s : Nat => cl40 (erS (b).toInt (fa 12 15) (tLa (fa 12 14) (fa 12 16) ((fa 12 6) s) ((fa 12 11) s) (((iv 12 13) : Int32).toInt).toNat) (tFi (fa 12 14) (fa 12 16) ((fa 12 6) s) ((fa 12 11) s) (((iv 12 13) : Int32).toInt).toNat))) ((v747 : Int32).toInt).toNat from (by
                                have hs9 : ((v747 : Int32).toInt).toNat = ((x715_5 : Int32).toInt).toNat + 1 := by omega
                                have hq9 := hq716_0
                                have z9_4 := congrArg Int32.toInt (show v728 = fa 12 4 ((x715_5 : Int32).toInt).toNat from ev728)
                                have z9_5 := congrArg Int32.toInt (show v731 = fa 12 5 ((x715_5 : Int32).toInt).toNat from ev731)
                                have y9 : ((r734 : Int32).toInt = 1 ∧ (fa 12 11 ((x715_5 : Int32).toInt).toNat).toInt ≤ ((iv 12 0) : Int32).toInt ∧ ((fa 12 12 ((x715_5 : Int32).toInt).toNat).toInt < 0 ∨ ((iv 12 0) : Int32).toInt < (fa 12 12 ((x715_5 : Int32).toInt).toNat).toInt)) ∨ ((r734 : Int32).toInt = 0 ∧ ¬ ((fa 12 11 ((x715_5 : Int32).toInt).toNat).toInt ≤ ((iv 12 0) : Int32).toInt ∧ ((fa 12 12 ((x715_5 : Int32).toInt).toNat).toInt < 0 ∨ ((iv 12 0) : Int32).toInt < (fa 12 12 ((x715_5 : Int32).toInt).toNat).toInt))) := xr734_0
                                have ha9 : v737 = fa 12 6 ((x715_5 : Int32).toInt).toNat := ev737
                                have hb9 : v738 = fa 12 11 ((x715_5 : Int32).toInt).toNat := ev738
                                have he9 := xr744_0
                                rw [ha9, hb9] at he9
                                have hv9 := xr745_0
                                rw [he9] at hv9
                                have hl9 := smI_b (c := cyP (fa 12 4) (fa 12 5) (fa 12 11) (fa 12 12) a.toInt (iv 12 0).toInt 0) (f := (fun s : Nat => cl40 (erS b.toInt (fa 12 15) (tLa (fa 12 14) (fa 12 16) ((fa 12 6) s) ((fa 12 11) s) ((iv 12 13).toInt).toNat) (tFi (fa 12 14) (fa 12 16) ((fa 12 6) s) ((fa 12 11) s) ((iv 12 13).toInt).toNat)))) (fun j => cl40_b _) ((x715_5 : Int32).toInt).toNat (by omega)
                                rw [← hq9] at hl9
                                have hz9 := cl40_b (er1 (fa 12 15) (tLa (fa 12 14) (fa 12 16) (fa 12 6 ((x715_5 : Int32).toInt).toNat) (fa 12 11 ((x715_5 : Int32).toInt).toNat) ((iv 12 13).toInt).toNat) (tFi (fa 12 14) (fa 12 16) (fa 12 6 ((x715_5 : Int32).toInt).toNat) (fa 12 11 ((x715_5 : Int32).toInt).toNat) ((iv 12 13).toInt).toNat))
                                rw [← hv9] at hz9
                                have hp9 : (w746 : Int64).toInt = _ := l_add ew746 rfl (Int32.toInt_toInt64 r745) (by omega) (by omega)
                                rw [smI_y hs9 (show ((fa 12 4) ((x715_5 : Int32).toInt).toNat).toInt = a.toInt ∧ ((fa 12 5) ((x715_5 : Int32).toInt).toNat).toInt = 0 ∧ ((fa 12 11) ((x715_5 : Int32).toInt).toNat).toInt ≤ (iv 12 0).toInt ∧ (((fa 12 12) ((x715_5 : Int32).toInt).toNat).toInt < 0 ∨ (iv 12 0).toInt < ((fa 12 12) ((x715_5 : Int32).toInt).toNat).toInt) from ⟨by omega, by omega, by omega, by omega⟩), ← hq9, hp9, hv9, erS_1 (by omega)])) (show (v747 : Int32).toInt ≤ ((iv 12 3) : Int32).toInt from by omega) (by omega) _ _ ls hP hD hS (lv_sub hl [0, 1, 2, 3, 4] rfl)
            have : (0 : Int64).toInt = 0 := (by decide)
            have i_12_13 : 0 ≤ (iv 12 13).toInt ∧ (iv 12 13).toInt ≤ 30 := hI.1 12 13
            exact lp716 61 0 0 ⟨by decide, by decide⟩ (show (0 : Int64).toInt = smI (cyP (fa 12 4) (fa 12 5) (fa 12 11) (fa 12 12) (a).toInt (iv 12 0).toInt 0) (fun s : Nat => cl40 (erS (b).toInt (fa 12 15) (tLa (fa 12 14) (fa 12 16) ((fa 12 6) s) ((fa 12 11) s) (((iv 12 13) : Int32).toInt).toNat) (tFi (fa 12 14) (fa 12 16) ((fa 12 6) s) ((fa 12 11) s) (((iv 12 13) : Int32).toInt).toNat))) ((0 : Int32).toInt).toNat from (by have hz : ((0 : Int32).toInt).toNat = 0 := (by decide); rw [hz]; exact (by decide : (0 : Int64).toInt = 0))) (show (0 : Int32).toInt ≤ ((iv 12 3) : Int32).toInt from by omega) (by first | decide | omega) _ _ ls hP hD hS (lv_sub hl [0, 1, 2, 3, 4] rfl)
          · have fc10 := z_eq (rfl : (r6).toInt = _) (by decide : (0 : Int32).toInt = 0) c10
            refine lv_ldc2 hx hb hown (ht _ m_1562) dX12_span_41 ?_
            have : ((-100003) : Int64).toInt = (-100003) := (by decide)
            have hP9 : va_P (dC, dI) classes (WM h g ca (u2 (u2 iv 12 19 n7) 12 41 (iv 12 41)) (u2 (u2 (u2 (u2 lv 12 17 n8) 12 18 n9) 12 46 (lv 12 46)) 12 47 (lv 12 47)) (u2 (u2 fa 12 39 (fa 12 39)) 12 40 (fa 12 40)) la) H := hP
            have hD9 : va_D A (WM h g ca (u2 (u2 iv 12 19 n7) 12 41 (iv 12 41)) (u2 (u2 (u2 (u2 lv 12 17 n8) 12 18 n9) 12 46 (lv 12 46)) 12 47 (lv 12 47)) (u2 (u2 fa 12 39 (fa 12 39)) 12 40 (fa 12 40)) la) := hD
            exact W.lret (v := (-100003)) hx hb hr (fun t ht9 hW => ⟨⟨(-100003), ((u2 (u2 iv 12 19 n7) 12 41 (iv 12 41)), (u2 (u2 (u2 (u2 lv 12 17 n8) 12 18 n9) 12 46 (lv 12 46)) 12 47 (lv 12 47)), (u2 (u2 fa 12 39 (fa 12 39)) 12 40 (fa 12 40)), la), rfl, ⟨(fa 12 39), (fa 12 40), n7, (iv 12 41), n8, n9, (lv 12 46), (lv 12 47), (hI.2 12 39), (hI.2 12 40), (hI.1 12 41), (show ((((-100003) : Int64).toInt = -100001 ∧ ¬ (0 ≤ (a).toInt ∧ (a).toInt < (iv 12 1).toInt)) ∨ (((-100003) : Int64).toInt = -100002 ∧ (0 ≤ (a).toInt ∧ (a).toInt < (iv 12 1).toInt) ∧ ¬ (0 ≤ (b).toInt ∧ (b).toInt ≤ 3)) ∨ (((-100003) : Int64).toInt = -100003 ∧ (0 ≤ (a).toInt ∧ (a).toInt < (iv 12 1).toInt) ∧ (0 ≤ (b).toInt ∧ (b).toInt ≤ 3) ∧ (nY (fa 12 4) (fa 12 5) (fa 12 11) (fa 12 12) (a).toInt (iv 12 0).toInt 0 ((iv 12 3).toInt).toNat).toInt = 0) ∨ ((0 ≤ (a).toInt ∧ (a).toInt < (iv 12 1).toInt) ∧ (0 ≤ (b).toInt ∧ (b).toInt ≤ 3) ∧ (nY (fa 12 4) (fa 12 5) (fa 12 11) (fa 12 12) (a).toInt (iv 12 0).toInt 0 ((iv 12 3).toInt).toNat).toInt ≠ 0 ∧ ∃ wt LU LD : Int, FoY (iv 12 23).toInt (fa 12 24) (fa 12 25) (fa 12 26) (fa 12 27) (fa 12 28) 0 (iv 12 0).toInt wt ∧ 0 ≤ wt ∧ LwY ((sY (fa 12 4) (fa 12 5) (fa 12 11) (fa 12 12) (fa 12 8) (a).toInt (iv 12 0).toInt 0 ((iv 12 3).toInt).toNat).toInt - smI (cyP (fa 12 4) (fa 12 5) (fa 12 11) (fa 12 12) (a).toInt (iv 12 0).toInt 0) (fun s : Nat => cl40 (erS (b).toInt (fa 12 15) (tLa (fa 12 14) (fa 12 16) ((fa 12 6) s) ((fa 12 11) s) ((iv 12 13).toInt).toNat) (tFi (fa 12 14) (fa 12 16) ((fa 12 6) s) ((fa 12 11) s) ((iv 12 13).toInt).toNat))) ((iv 12 3).toInt).toNat) ((sY (fa 12 4) (fa 12 5) (fa 12 11) (fa 12 12) (fa 12 7) (a).toInt (iv 12 0).toInt 0 ((iv 12 3).toInt).toNat).toInt - smI (cyP (fa 12 4) (fa 12 5) (fa 12 11) (fa 12 12) (a).toInt (iv 12 0).toInt 0) (fun s : Nat => cl40 (erS (b).toInt (fa 12 15) (tLa (fa 12 14) (fa 12 16) ((fa 12 6) s) ((fa 12 11) s) ((iv 12 13).toInt).toNat) (tFi (fa 12 14) (fa 12 16) ((fa 12 6) s) ((fa 12 11) s) ((iv 12 13).toInt).toNat))) ((iv 12 3).toInt).toNat) (((fa 12 2) ((a).toInt).toNat).toInt * (1000 + wt)) LU LD ∧ ltY LU LD ((b).toInt % 2) ((-100003) : Int64).toInt)) from Or.inr (Or.inr (Or.inl ⟨by omega, ⟨by omega, by omega⟩, ⟨by omega, by omega⟩, by omega⟩))), trivial, rfl⟩, by rw [ht9]; exact hP9, hD9⟩, hS.F ht9⟩) hS.2.2 dX12_span_44
        · exact absurd c5 (by decide)
      · skip
        refine lv_if_ne (tgt := 28) hx hb dX12_span_21 (by decide) (fun c748 => ?_) (fun c748 => ?_)
        · exact absurd rfl c748
        · skip
          refine lv_ldc2 hx hb hown (ht _ m_1561) dX12_span_24 ?_
          have : ((-100002) : Int64).toInt = (-100002) := (by decide)
          have hP9 : va_P (dC, dI) classes (WM h g ca (u2 (u2 iv 12 19 (iv 12 19)) 12 41 (iv 12 41)) (u2 (u2 (u2 (u2 lv 12 17 (lv 12 17)) 12 18 (lv 12 18)) 12 46 (lv 12 46)) 12 47 (lv 12 47)) (u2 (u2 fa 12 39 (fa 12 39)) 12 40 (fa 12 40)) la) s.heap := hP
          have hD9 : va_D A (WM h g ca (u2 (u2 iv 12 19 (iv 12 19)) 12 41 (iv 12 41)) (u2 (u2 (u2 (u2 lv 12 17 (lv 12 17)) 12 18 (lv 12 18)) 12 46 (lv 12 46)) 12 47 (lv 12 47)) (u2 (u2 fa 12 39 (fa 12 39)) 12 40 (fa 12 40)) la) := hD
          exact W.lret (v := (-100002)) hx hb hr (fun t ht9 hW => ⟨⟨(-100002), ((u2 (u2 iv 12 19 (iv 12 19)) 12 41 (iv 12 41)), (u2 (u2 (u2 (u2 lv 12 17 (lv 12 17)) 12 18 (lv 12 18)) 12 46 (lv 12 46)) 12 47 (lv 12 47)), (u2 (u2 fa 12 39 (fa 12 39)) 12 40 (fa 12 40)), la), rfl, ⟨(fa 12 39), (fa 12 40), (iv 12 19), (iv 12 41), (lv 12 17), (lv 12 18), (lv 12 46), (lv 12 47), (hI.2 12 39), (hI.2 12 40), (hI.1 12 41), (show ((((-100002) : Int64).toInt = -100001 ∧ ¬ (0 ≤ (a).toInt ∧ (a).toInt < (iv 12 1).toInt)) ∨ (((-100002) : Int64).toInt = -100002 ∧ (0 ≤ (a).toInt ∧ (a).toInt < (iv 12 1).toInt) ∧ ¬ (0 ≤ (b).toInt ∧ (b).toInt ≤ 3)) ∨ (((-100002) : Int64).toInt = -100003 ∧ (0 ≤ (a).toInt ∧ (a).toInt < (iv 12 1).toInt) ∧ (0 ≤ (b).toInt ∧ (b).toInt ≤ 3) ∧ (nY (fa 12 4) (fa 12 5) (fa 12 11) (fa 12 12) (a).toInt (iv 12 0).toInt 0 ((iv 12 3).toInt).toNat).toInt = 0) ∨ ((0 ≤ (a).toInt ∧ (a).toInt < (iv 12 1).toInt) ∧ (0 ≤ (b).toInt ∧ (b).toInt ≤ 3) ∧ (nY (fa 12 4) (fa 12 5) (fa 12 11) (fa 12 12) (a).toInt (iv 12 0).toInt 0 ((iv 12 3).toInt).toNat).toInt ≠ 0 ∧ ∃ wt LU LD : Int, FoY (iv 12 23).toInt (fa 12 24) (fa 12 25) (fa 12 26) (fa 12 27) (fa 12 28) 0 (iv 12 0).toInt wt ∧ 0 ≤ wt ∧ LwY ((sY (fa 12 4) (fa 12 5) (fa 12 11) (fa 12 12) (fa 12 8) (a).toInt (iv 12 0).toInt 0 ((iv 12 3).toInt).toNat).toInt - smI (cyP (fa 12 4) (fa 12 5) (fa 12 11) (fa 12 12) (a).toInt (iv 12 0).toInt 0) (fun s : Nat => cl40 (erS (b).toInt (fa 12 15) (tLa (fa 12 14) (fa 12 16) ((fa 12 6) s) ((fa 12 11) s) ((iv 12 13).toInt).toNat) (tFi (fa 12 14) (fa 12 16) ((fa 12 6) s) ((fa 12 11) s) ((iv 12 13).toInt).toNat))) ((iv 12 3).toInt).toNat) ((sY (fa 12 4) (fa 12 5) (fa 12 11) (fa 12 12) (fa 12 7) (a).toInt (iv 12 0).toInt 0 ((iv 12 3).toInt).toNat).toInt - smI (cyP (fa 12 4) (fa 12 5) (fa 12 11) (fa 12 12) (a).toInt (iv 12 0).toInt 0) (fun s : Nat => cl40 (erS (b).toInt (fa 12 15) (tLa (fa 12 14) (fa 12 16) ((fa 12 6) s) ((fa 12 11) s) ((iv 12 13).toInt).toNat) (tFi (fa 12 14) (fa 12 16) ((fa 12 6) s) ((fa 12 11) s) ((iv 12 13).toInt).toNat))) ((iv 12 3).toInt).toNat) (((fa 12 2) ((a).toInt).toNat).toInt * (1000 + wt)) LU LD ∧ ltY LU LD ((b).toInt % 2) ((-100002) : Int64).toInt)) from Or.inr (Or.inl ⟨by omega, ⟨by omega, by omega⟩, by omega⟩)), trivial, rfl⟩, by rw [ht9]; exact hP9, hD9⟩, hS.F ht9⟩) hS.2.2 dX12_span_27
    · exact absurd rfl c3
