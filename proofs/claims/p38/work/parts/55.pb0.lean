/-! ===== pb0 ===== -/
set_option maxHeartbeats 4000000 in
set_option maxRecDepth 100000 in
/-- X12_certify -/
theorem c_X12_certify_w (l : Launch) (dC : Nat → ClassId) (dI : Nat → Nat → Nat) (sz : Nat) (h : Nat) (g : Nat → Nat → Nat) (ca : Nat → Nat → ClassId) (iv : Nat → Nat → Int32) (lv : Nat → Nat → Int64) (fa : Nat → Nat → Nat → Int32) (la : Nat → Nat → Nat → Int64) (hI : IX iv fa) (a : Int32) (hJC : JCf (iv 12 23).toInt (fa 12 25) (fa 12 26) (fa 12 27) (fa 12 28)) (hJR : JRf (iv 12 3).toInt (fa 12 7)) (hJO : (iv 12 20).toInt = -1 ∧ (iv 12 21).toInt = -1 ∧ (iv 12 22).toInt = -1) (hJK : ∀ k j : Nat, (k : Int) < (iv 12 23).toInt → 12 * k ≤ j → (j : Int) < 12 * (k : Int) + (fa 12 25 k).toInt → (fa 12 26 j).toInt = 3 → 0 ≤ (fa 12 28 j).toInt ∧ (fa 12 28 j).toInt < (k : Int)) (hJD : ∀ s : Nat, (s : Int) < (iv 12 3).toInt → (100 ≤ (fa 12 7 s).toInt ∧ (fa 12 7 s).toInt ≤ 9999) ∧ (50 ≤ (fa 12 8 s).toInt ∧ (fa 12 8 s).toInt ≤ 9999)) (hJN : JNf (iv 12 3).toInt (fa 12 4) (fa 12 5)) (hJH : ∀ a d v : Int, 0 ≤ a → a ≤ 5 → FoY (iv 12 23).toInt (fa 12 24) (fa 12 25) (fa 12 26) (fa 12 27) (fa 12 28) a d v → fLo a ≤ v ∧ v ≤ fHi a) (hJI : ∀ j : Nat, (j : Int) < (iv 12 1).toInt → 1 ≤ (fa 12 2 j).toInt ∧ (fa 12 2 j).toInt ≤ 99999) : Met l yX12_certify (wc yX12_certify cX12_certify 4 (some .int)) ({ frames := 3, cells := 0, slots := 0, locals := 92 } : Room) (pW (dC, dI) classes (WM h g ca iv lv fa la) (TM ca) sz [.ref h, .int a]) (va_Qi (fun r (u : SS) => ∃ (na_12_39 : Nat → Int32) (na_12_40 : Nat → Int32) (na_12_68 : Nat → Int32) (na_12_69 : Nat → Int32) (na_12_71 : Nat → Int32) (na_12_72 : Nat → Int32) (na_12_73 : Nat → Int32) (na_12_74 : Nat → Int32) (nb_12_42 : Nat → Int64) (nb_12_43 : Nat → Int64) (nb_12_70 : Nat → Int64) (ni_12_19 : Int32) (ni_12_41 : Int32) (ni_12_67 : Int32) (nl_12_17 : Int64) (nl_12_18 : Int64) (nl_12_44 : Int64) (nl_12_45 : Int64) (nl_12_46 : Int64) (nl_12_47 : Int64), (∀ j, inb (bA 12 39 j) (na_12_39 j)) ∧ (∀ j, inb (bA 12 40 j) (na_12_40 j)) ∧ (∀ j, inb (bA 12 71 j) (na_12_71 j)) ∧ inb (bI 12 41) ni_12_41 ∧ inb (bI 12 67) ni_12_67 ∧ (((r.toInt = -100001 ∧ ¬ (0 ≤ a.toInt ∧ a.toInt < (iv 12 1).toInt) ∧ SmY (fa 12 68) (fa 12 69) (la 12 70) (fa 12 71) (fa 12 72) (fa 12 73) na_12_68 na_12_69 nb_12_70 na_12_71 na_12_72 na_12_73 ∧ (ni_12_67).toInt = (iv 12 67).toInt) ∨ (r.toInt = -100003 ∧ (0 ≤ a.toInt ∧ a.toInt < (iv 12 1).toInt) ∧ (CeY (iv 12 67).toInt (fa 12 68) (fa 12 69) (fa 12 73) a.toInt ∨ ∃ (D R : Nat → Int64) (up dn ro : Int), LwT (fun q v => FoY (iv 12 23).toInt (fa 12 24) (fa 12 25) (fa 12 26) (fa 12 27) (fa 12 28) q (iv 12 0).toInt v) (fa 12 4) (fa 12 5) (fa 12 11) (fa 12 12) (fa 12 7) (fa 12 8) a.toInt (iv 12 0).toInt ((iv 12 3).toInt).toNat D R up dn ro ∧ ro ≠ 1) ∧ SmY (fa 12 68) (fa 12 69) (la 12 70) (fa 12 71) (fa 12 72) (fa 12 73) na_12_68 na_12_69 nb_12_70 na_12_71 na_12_72 na_12_73 ∧ (ni_12_67).toInt = (iv 12 67).toInt) ∨ (r.toInt = -100004 ∧ (0 ≤ a.toInt ∧ a.toInt < (iv 12 1).toInt) ∧ ¬ CeY (iv 12 67).toInt (fa 12 68) (fa 12 69) (fa 12 73) a.toInt ∧ (∃ (D R : Nat → Int64) (up dn ro : Int), LwT (fun q v => FoY (iv 12 23).toInt (fa 12 24) (fa 12 25) (fa 12 26) (fa 12 27) (fa 12 28) q (iv 12 0).toInt v) (fa 12 4) (fa 12 5) (fa 12 11) (fa 12 12) (fa 12 7) (fa 12 8) a.toInt (iv 12 0).toInt ((iv 12 3).toInt).toNat D R up dn ro ∧ ro = 1) ∧ 40 ≤ (iv 12 67).toInt ∧ SmY (fa 12 68) (fa 12 69) (la 12 70) (fa 12 71) (fa 12 72) (fa 12 73) na_12_68 na_12_69 nb_12_70 na_12_71 na_12_72 na_12_73 ∧ (ni_12_67).toInt = (iv 12 67).toInt) ∨ ((0 ≤ a.toInt ∧ a.toInt < (iv 12 1).toInt) ∧ ¬ CeY (iv 12 67).toInt (fa 12 68) (fa 12 69) (fa 12 73) a.toInt ∧ (iv 12 67).toInt < 40 ∧ r.toInt = (iv 12 67).toInt ∧ (ni_12_67).toInt = (iv 12 67).toInt + 1 ∧ ∃ (D R : Nat → Int64) (up dn ro : Int), LwT (fun q v => FoY (iv 12 23).toInt (fa 12 24) (fa 12 25) (fa 12 26) (fa 12 27) (fa 12 28) q (iv 12 0).toInt v) (fa 12 4) (fa 12 5) (fa 12 11) (fa 12 12) (fa 12 7) (fa 12 8) a.toInt (iv 12 0).toInt ((iv 12 3).toInt).toNat D R up dn ro ∧ ro = 1 ∧ ∃ wt LU LD : Int, FoY (iv 12 23).toInt (fa 12 24) (fa 12 25) (fa 12 26) (fa 12 27) (fa 12 28) 0 (iv 12 0).toInt wt ∧ 0 ≤ wt ∧ LwY up dn (((fa 12 2) (a.toInt).toNat).toInt * (1000 + wt)) LU LD ∧ ApY ((iv 12 67).toInt).toNat (fa 12 68) (fa 12 69) (la 12 70) (fa 12 71) (fa 12 72) (fa 12 73) na_12_68 na_12_69 nb_12_70 na_12_71 na_12_72 na_12_73 0 a.toInt (LU / LD) (-1) (iv 12 0).toInt))) ∧ ((-100004) ≤ r.toInt ∧ r.toInt ≤ 39) ∧ u = ((u2 (u2 (u2 iv 12 19 ni_12_19) 12 41 ni_12_41) 12 67 ni_12_67), (u2 (u2 (u2 (u2 (u2 (u2 lv 12 17 nl_12_17) 12 18 nl_12_18) 12 44 nl_12_44) 12 45 nl_12_45) 12 46 nl_12_46) 12 47 nl_12_47), (u2 (u2 (u2 (u2 (u2 (u2 (u2 (u2 fa 12 39 na_12_39) 12 40 na_12_40) 12 68 na_12_68) 12 69 na_12_69) 12 71 na_12_71) 12 72 na_12_72) 12 73 na_12_73) 12 74 na_12_74), (u2 (u2 (u2 la 12 42 nb_12_42) 12 43 nb_12_43) 12 70 nb_12_70))) (bM (dC, dI) h g ca (va_A (WM h g ca iv lv fa la) sz)) (va_A (WM h g ca iv lv fa la) sz)) 0 0 (va_A (WM h g ca iv lv fa la) sz) := by
  refine Met.ofW (cc := cX12_certify) (maxL := 4) (ret := (some .int)) (by decide) rfl ?_
  intro p e s m args below meth c s₁ B hml hv
  obtain ⟨rfl, hsz, hP, hK, hD0⟩ := hv
  have hx := B.exec
  have hb := B.bytes
  have hr := B.returns
  have ht := tb_tl (atoms_spec (ws := wc yX12_certify cX12_certify 4 (some .int)) B.pre)
  have hown : s.vm.findClass RX12 = some m.cls := findClass_of_methodNamed B.named
  have hlocks := B.notSynchronized
  subst hsz
  have hD := hD0.self (sz := s.heap.size)
  generalize hAe : va_A (WM h g ca iv lv fa la) s.heap.size = A at hD ⊢
  have hA : ∀ q : Nat, s.heap.size ≤ q → A q := fun q h => by rw [← hAe]; exact Or.inr h
  have hS : va_S A s.heap s.heap [] := va_S.rf
  have hl := lv_entry [.ref h, .int a] (n := 4) (Nat.le_of_ble_eq_true rfl)
  rw [lg_entry_eq]
  generalize (lg_sl [.ref h, .int a] ++ List.replicate (4 - (lg_sl [.ref h, .int a]).length) Slot.unset).toArray = ls at hl ⊢
  have hl : lv_has ls 4 [(0, .ref h), (1, .int a)] := hl
  refine lv_aload_n hx hb dX12_certify_0 rfl (lv_at hl 0 rfl) ?_
  refine lv_iload_n hx hb dX12_certify_1 rfl (lv_at hl 1 rfl) ?_
  refine vp_callSi (W.runV (As := [.int a]) (rest := []) ⟨hx, hb, hml, hown, ht⟩ (c_X12_noBale l dC dI h g ca iv lv fa la hI a) (kV 1 ht m_1385 m_1387 m_42 m_89 m_1388 rfl rfl hd_X12_noBale_v ⟨Nat.le_of_ble_eq_true rfl, Nat.le_of_ble_eq_true rfl⟩) (vR hP hK (rM_12 hK hP)) rfl rfl hl.1 rfl (lv_room (Nat.le_of_ble_eq_true rfl)) dX12_certify_2 ⟨Nat.le_of_ble_eq_true rfl, Nat.le_of_ble_eq_true rfl⟩) (fun r1 hr1 => ?_)
  rcases hr1 with ⟨rfl, fr1⟩ | ⟨rfl, fr1⟩
  · skip
    have i_12_1 : 0 ≤ (iv 12 1).toInt ∧ (iv 12 1).toInt ≤ 10 := hI.1 12 1
    have fr1 : ¬ (0 ≤ (a : Int32).toInt ∧ (a : Int32).toInt < ((iv 12 1) : Int32).toInt) := fr1
    refine lv_if_eq (tgt := 11) hx hb dX12_certify_5 (by decide) (fun c2 => ?_) (fun c2 => ?_)
    · exact absurd c2 (by decide)
    · skip
      refine lv_ldc hx hb hown (ht _ m_1389) dX12_certify_8 ?_
      have : ((-100001) : Int32).toInt = (-100001) := (by decide)
      have i_12_67 : 0 ≤ (iv 12 67).toInt ∧ (iv 12 67).toInt ≤ 40 := hI.1 12 67
      have hP9 : va_P (dC, dI) classes (WM h g ca (u2 (u2 (u2 iv 12 19 (iv 12 19)) 12 41 (iv 12 41)) 12 67 (iv 12 67)) (u2 (u2 (u2 (u2 (u2 (u2 lv 12 17 (lv 12 17)) 12 18 (lv 12 18)) 12 44 (lv 12 44)) 12 45 (lv 12 45)) 12 46 (lv 12 46)) 12 47 (lv 12 47)) (u2 (u2 (u2 (u2 (u2 (u2 (u2 (u2 fa 12 39 (fa 12 39)) 12 40 (fa 12 40)) 12 68 (fa 12 68)) 12 69 (fa 12 69)) 12 71 (fa 12 71)) 12 72 (fa 12 72)) 12 73 (fa 12 73)) 12 74 (fa 12 74)) (u2 (u2 (u2 la 12 42 (la 12 42)) 12 43 (la 12 43)) 12 70 (la 12 70))) s.heap := hP
      have hD9 : va_D A (WM h g ca (u2 (u2 (u2 iv 12 19 (iv 12 19)) 12 41 (iv 12 41)) 12 67 (iv 12 67)) (u2 (u2 (u2 (u2 (u2 (u2 lv 12 17 (lv 12 17)) 12 18 (lv 12 18)) 12 44 (lv 12 44)) 12 45 (lv 12 45)) 12 46 (lv 12 46)) 12 47 (lv 12 47)) (u2 (u2 (u2 (u2 (u2 (u2 (u2 (u2 fa 12 39 (fa 12 39)) 12 40 (fa 12 40)) 12 68 (fa 12 68)) 12 69 (fa 12 69)) 12 71 (fa 12 71)) 12 72 (fa 12 72)) 12 73 (fa 12 73)) 12 74 (fa 12 74)) (u2 (u2 (u2 la 12 42 (la 12 42)) 12 43 (la 12 43)) 12 70 (la 12 70))) := hD
      exact W.iret (v := (-100001)) hx hb hr (fun t ht9 hW => ⟨⟨(-100001), ((u2 (u2 (u2 iv 12 19 (iv 12 19)) 12 41 (iv 12 41)) 12 67 (iv 12 67)), (u2 (u2 (u2 (u2 (u2 (u2 lv 12 17 (lv 12 17)) 12 18 (lv 12 18)) 12 44 (lv 12 44)) 12 45 (lv 12 45)) 12 46 (lv 12 46)) 12 47 (lv 12 47)), (u2 (u2 (u2 (u2 (u2 (u2 (u2 (u2 fa 12 39 (fa 12 39)) 12 40 (fa 12 40)) 12 68 (fa 12 68)) 12 69 (fa 12 69)) 12 71 (fa 12 71)) 12 72 (fa 12 72)) 12 73 (fa 12 73)) 12 74 (fa 12 74)), (u2 (u2 (u2 la 12 42 (la 12 42)) 12 43 (la 12 43)) 12 70 (la 12 70))), rfl, ⟨(fa 12 39), (fa 12 40), (fa 12 68), (fa 12 69), (fa 12 71), (fa 12 72), (fa 12 73), (fa 12 74), (la 12 42), (la 12 43), (la 12 70), (iv 12 19), (iv 12 41), (iv 12 67), (lv 12 17), (lv 12 18), (lv 12 44), (lv 12 45), (lv 12 46), (lv 12 47), (hI.2 12 39), (hI.2 12 40), (hI.2 12 71), (hI.1 12 41), (hI.1 12 67), (show ((((-100001) : Int32).toInt = -100001 ∧ ¬ (0 ≤ (a).toInt ∧ (a).toInt < (iv 12 1).toInt) ∧ SmY (fa 12 68) (fa 12 69) (la 12 70) (fa 12 71) (fa 12 72) (fa 12 73) (fa 12 68) (fa 12 69) (la 12 70) (fa 12 71) (fa 12 72) (fa 12 73) ∧ ((iv 12 67) : Int32).toInt = (iv 12 67).toInt) ∨ (((-100001) : Int32).toInt = -100003 ∧ (0 ≤ (a).toInt ∧ (a).toInt < (iv 12 1).toInt) ∧ (CeY (iv 12 67).toInt (fa 12 68) (fa 12 69) (fa 12 73) (a).toInt ∨ ∃ (D R : Nat → Int64) (up dn ro : Int), LwT (fun q v => FoY (iv 12 23).toInt (fa 12 24) (fa 12 25) (fa 12 26) (fa 12 27) (fa 12 28) q (iv 12 0).toInt v) (fa 12 4) (fa 12 5) (fa 12 11) (fa 12 12) (fa 12 7) (fa 12 8) (a).toInt (iv 12 0).toInt ((iv 12 3).toInt).toNat D R up dn ro ∧ ro ≠ 1) ∧ SmY (fa 12 68) (fa 12 69) (la 12 70) (fa 12 71) (fa 12 72) (fa 12 73) (fa 12 68) (fa 12 69) (la 12 70) (fa 12 71) (fa 12 72) (fa 12 73) ∧ ((iv 12 67) : Int32).toInt = (iv 12 67).toInt) ∨ (((-100001) : Int32).toInt = -100004 ∧ (0 ≤ (a).toInt ∧ (a).toInt < (iv 12 1).toInt) ∧ ¬ CeY (iv 12 67).toInt (fa 12 68) (fa 12 69) (fa 12 73) (a).toInt ∧ (∃ (D R : Nat → Int64) (up dn ro : Int), LwT (fun q v => FoY (iv 12 23).toInt (fa 12 24) (fa 12 25) (fa 12 26) (fa 12 27) (fa 12 28) q (iv 12 0).toInt v) (fa 12 4) (fa 12 5) (fa 12 11) (fa 12 12) (fa 12 7) (fa 12 8) (a).toInt (iv 12 0).toInt ((iv 12 3).toInt).toNat D R up dn ro ∧ ro = 1) ∧ 40 ≤ (iv 12 67).toInt ∧ SmY (fa 12 68) (fa 12 69) (la 12 70) (fa 12 71) (fa 12 72) (fa 12 73) (fa 12 68) (fa 12 69) (la 12 70) (fa 12 71) (fa 12 72) (fa 12 73) ∧ ((iv 12 67) : Int32).toInt = (iv 12 67).toInt) ∨ ((0 ≤ (a).toInt ∧ (a).toInt < (iv 12 1).toInt) ∧ ¬ CeY (iv 12 67).toInt (fa 12 68) (fa 12 69) (fa 12 73) (a).toInt ∧ (iv 12 67).toInt < 40 ∧ ((-100001) : Int32).toInt = (iv 12 67).toInt ∧ ((iv 12 67) : Int32).toInt = (iv 12 67).toInt + 1 ∧ ∃ (D R : Nat → Int64) (up dn ro : Int), LwT (fun q v => FoY (iv 12 23).toInt (fa 12 24) (fa 12 25) (fa 12 26) (fa 12 27) (fa 12 28) q (iv 12 0).toInt v) (fa 12 4) (fa 12 5) (fa 12 11) (fa 12 12) (fa 12 7) (fa 12 8) (a).toInt (iv 12 0).toInt ((iv 12 3).toInt).toNat D R up dn ro ∧ ro = 1 ∧ ∃ wt LU LD : Int, FoY (iv 12 23).toInt (fa 12 24) (fa 12 25) (fa 12 26) (fa 12 27) (fa 12 28) 0 (iv 12 0).toInt wt ∧ 0 ≤ wt ∧ LwY up dn (((fa 12 2) ((a).toInt).toNat).toInt * (1000 + wt)) LU LD ∧ ApY ((iv 12 67).toInt).toNat (fa 12 68) (fa 12 69) (la 12 70) (fa 12 71) (fa 12 72) (fa 12 73) (fa 12 68) (fa 12 69) (la 12 70) (fa 12 71) (fa 12 72) (fa 12 73) 0 (a).toInt (LU / LD) (-1) (iv 12 0).toInt)) from Or.inl ⟨by omega, by omega, (fun j => ⟨rfl, rfl, rfl, rfl, rfl, rfl⟩), by omega⟩), ⟨by decide, by decide⟩, rfl⟩, by rw [ht9]; exact hP9, hD9⟩, hS.F ht9⟩) hS.2.2 dX12_certify_10
  · skip
    have i_12_1 : 0 ≤ (iv 12 1).toInt ∧ (iv 12 1).toInt ≤ 10 := hI.1 12 1
    have fr1 : (0 ≤ (a : Int32).toInt ∧ (a : Int32).toInt < ((iv 12 1) : Int32).toInt) := Decidable.not_not.mp fr1
    refine lv_if_eq (tgt := 11) hx hb dX12_certify_5 (by decide) (fun c3 => ?_) (fun c3 => ?_)
    · skip
      refine lv_iconst (v := 0) hx hb dX12_certify_11 (by decide) ?_
      refine lv_istore_n (lv' := [(2, .int 0), (0, .ref h), (1, .int a)]) hx hb dX12_certify_12 rfl hl (by decide) rfl (fun ls hl => ?_)
      refine lv_iconst (v := 0) hx hb dX12_certify_13 (by decide) ?_
      refine lv_istore_n (lv' := [(3, .int 0), (2, .int 0), (0, .ref h), (1, .int a)]) hx hb dX12_certify_14 rfl hl (by decide) rfl (fun ls hl => ?_)
      have i_12_67 : 0 ≤ (iv 12 67).toInt ∧ (iv 12 67).toInt ≤ 40 := hI.1 12 67
      have lp936 : ∀ (nn936 : Nat) (x935_3 : Int32) (x935_2 : Int32), 0 ≤ x935_3.toInt ∧ x935_3.toInt ≤ 40 → 0 ≤ x935_2.toInt ∧ x935_2.toInt ≤ 1 → ((((x935_2 : Int32).toInt = 1 ∧ ∃ p : Nat, (p : Int) < (x935_3 : Int32).toInt ∧ (((fa 12 68) p).toInt = 0 ∧ ((fa 12 69) p).toInt = (a).toInt ∧ ((fa 12 73) p).toInt < 0)) ∨ ((x935_2 : Int32).toInt = 0 ∧ ∀ p : Nat, (p : Int) < (x935_3 : Int32).toInt → ¬ (((fa 12 68) p).toInt = 0 ∧ ((fa 12 69) p).toInt = (a).toInt ∧ ((fa 12 73) p).toInt < 0)))) → (x935_3 : Int32).toInt ≤ ((iv 12 67) : Int32).toInt → 40 - x935_3.toInt < (nn936 : Int) → ∀ (H : Heap) (locs : List Loc), ∀ (ls : Array Slot), va_P (dC, dI) classes (WM h g ca iv lv fa la) H → va_D A (WM h g ca iv lv fa la) → va_S A s.heap H locs → lv_has ls 4 [(3, .int x935_3), (2, .int x935_2), (0, .ref h), (1, .int a)] → W p l e ({ frames := 3, cells := 0, slots := 0, locals := 92 } : Room) s m ([.ref h, .int a] : List Value).toArray below meth c H locs 0 0 (MQ below (va_Qi (fun r (u : SS) => ∃ (na_12_39 : Nat → Int32) (na_12_40 : Nat → Int32) (na_12_68 : Nat → Int32) (na_12_69 : Nat → Int32) (na_12_71 : Nat → Int32) (na_12_72 : Nat → Int32) (na_12_73 : Nat → Int32) (na_12_74 : Nat → Int32) (nb_12_42 : Nat → Int64) (nb_12_43 : Nat → Int64) (nb_12_70 : Nat → Int64) (ni_12_19 : Int32) (ni_12_41 : Int32) (ni_12_67 : Int32) (nl_12_17 : Int64) (nl_12_18 : Int64) (nl_12_44 : Int64) (nl_12_45 : Int64) (nl_12_46 : Int64) (nl_12_47 : Int64), (∀ j, inb (bA 12 39 j) (na_12_39 j)) ∧ (∀ j, inb (bA 12 40 j) (na_12_40 j)) ∧ (∀ j, inb (bA 12 71 j) (na_12_71 j)) ∧ inb (bI 12 41) ni_12_41 ∧ inb (bI 12 67) ni_12_67 ∧ (((r.toInt = -100001 ∧ ¬ (0 ≤ a.toInt ∧ a.toInt < (iv 12 1).toInt) ∧ SmY (fa 12 68) (fa 12 69) (la 12 70) (fa 12 71) (fa 12 72) (fa 12 73) na_12_68 na_12_69 nb_12_70 na_12_71 na_12_72 na_12_73 ∧ (ni_12_67).toInt = (iv 12 67).toInt) ∨ (r.toInt = -100003 ∧ (0 ≤ a.toInt ∧ a.toInt < (iv 12 1).toInt) ∧ (CeY (iv 12 67).toInt (fa 12 68) (fa 12 69) (fa 12 73) a.toInt ∨ ∃ (D R : Nat → Int64) (up dn ro : Int), LwT (fun q v => FoY (iv 12 23).toInt (fa 12 24) (fa 12 25) (fa 12 26) (fa 12 27) (fa 12 28) q (iv 12 0).toInt v) (fa 12 4) (fa 12 5) (fa 12 11) (fa 12 12) (fa 12 7) (fa 12 8) a.toInt (iv 12 0).toInt ((iv 12 3).toInt).toNat D R up dn ro ∧ ro ≠ 1) ∧ SmY (fa 12 68) (fa 12 69) (la 12 70) (fa 12 71) (fa 12 72) (fa 12 73) na_12_68 na_12_69 nb_12_70 na_12_71 na_12_72 na_12_73 ∧ (ni_12_67).toInt = (iv 12 67).toInt) ∨ (r.toInt = -100004 ∧ (0 ≤ a.toInt ∧ a.toInt < (iv 12 1).toInt) ∧ ¬ CeY (iv 12 67).toInt (fa 12 68) (fa 12 69) (fa 12 73) a.toInt ∧ (∃ (D R : Nat → Int64) (up dn ro : Int), LwT (fun q v => FoY (iv 12 23).toInt (fa 12 24) (fa 12 25) (fa 12 26) (fa 12 27) (fa 12 28) q (iv 12 0).toInt v) (fa 12 4) (fa 12 5) (fa 12 11) (fa 12 12) (fa 12 7) (fa 12 8) a.toInt (iv 12 0).toInt ((iv 12 3).toInt).toNat D R up dn ro ∧ ro = 1) ∧ 40 ≤ (iv 12 67).toInt ∧ SmY (fa 12 68) (fa 12 69) (la 12 70) (fa 12 71) (fa 12 72) (fa 12 73) na_12_68 na_12_69 nb_12_70 na_12_71 na_12_72 na_12_73 ∧ (ni_12_67).toInt = (iv 12 67).toInt) ∨ ((0 ≤ a.toInt ∧ a.toInt < (iv 12 1).toInt) ∧ ¬ CeY (iv 12 67).toInt (fa 12 68) (fa 12 69) (fa 12 73) a.toInt ∧ (iv 12 67).toInt < 40 ∧ r.toInt = (iv 12 67).toInt ∧ (ni_12_67).toInt = (iv 12 67).toInt + 1 ∧ ∃ (D R : Nat → Int64) (up dn ro : Int), LwT (fun q v => FoY (iv 12 23).toInt (fa 12 24) (fa 12 25) (fa 12 26) (fa 12 27) (fa 12 28) q (iv 12 0).toInt v) (fa 12 4) (fa 12 5) (fa 12 11) (fa 12 12) (fa 12 7) (fa 12 8) a.toInt (iv 12 0).toInt ((iv 12 3).toInt).toNat D R up dn ro ∧ ro = 1 ∧ ∃ wt LU LD : Int, FoY (iv 12 23).toInt (fa 12 24) (fa 12 25) (fa 12 26) (fa 12 27) (fa 12 28) 0 (iv 12 0).toInt wt ∧ 0 ≤ wt ∧ LwY up dn (((fa 12 2) (a.toInt).toNat).toInt * (1000 + wt)) LU LD ∧ ApY ((iv 12 67).toInt).toNat (fa 12 68) (fa 12 69) (la 12 70) (fa 12 71) (fa 12 72) (fa 12 73) na_12_68 na_12_69 nb_12_70 na_12_71 na_12_72 na_12_73 0 a.toInt (LU / LD) (-1) (iv 12 0).toInt))) ∧ ((-100004) ≤ r.toInt ∧ r.toInt ≤ 39) ∧ u = ((u2 (u2 (u2 iv 12 19 ni_12_19) 12 41 ni_12_41) 12 67 ni_12_67), (u2 (u2 (u2 (u2 (u2 (u2 lv 12 17 nl_12_17) 12 18 nl_12_18) 12 44 nl_12_44) 12 45 nl_12_45) 12 46 nl_12_46) 12 47 nl_12_47), (u2 (u2 (u2 (u2 (u2 (u2 (u2 (u2 fa 12 39 na_12_39) 12 40 na_12_40) 12 68 na_12_68) 12 69 na_12_69) 12 71 na_12_71) 12 72 na_12_72) 12 73 na_12_73) 12 74 na_12_74), (u2 (u2 (u2 la 12 42 nb_12_42) 12 43 nb_12_43) 12 70 nb_12_70))) (bM (dC, dI) h g ca A) A) ([.ref h, .int a] : List Value).toArray s 0 0 A) (F0 m 15 ls []) := by
        intro nn936
        induction nn936 with
        | zero => intro x935_3 x935_2 hx935_3 hx935_2 hq936_0 hq936_1 hm936; exfalso; omega
        | succ nn936 ih936 =>
          intro x935_3 x935_2 hx935_3 hx935_2 hq936_0 hq936_1 hm936 H locs ls hP hD hS hl
          refine lv_iload_n hx hb dX12_certify_15 rfl (lv_at hl 0 rfl) ?_
          refine lv_aload_n hx hb dX12_certify_16 rfl (lv_at hl 2 rfl) ?_
          refine gM_12_67 hx hb ht hown hK hP m_1206 (v := (iv 12 67)) rfl dX12_certify_17 ?_
          refine lv_icmp_ge (tgt := 67) hx hb dX12_certify_20 (by decide) (fun c937 => ?_) (fun c937 => ?_)
          · have fc937 := z_le (rfl : ((iv 12 67)).toInt = _) (rfl : (x935_3).toInt = _) c937
            refine lv_iload_n hx hb dX12_certify_67 rfl (lv_at hl 1 rfl) ?_
            refine lv_if_ne (tgt := 84) hx hb dX12_certify_68 (by decide) (fun c938 => ?_) (fun c938 => ?_)
            · have fc938 := z_ne (rfl : (x935_2).toInt = _) (by decide : (0 : Int32).toInt = 0) c938
              refine lv_ldc hx hb hown (ht _ m_1374) dX12_certify_84 ?_
              have : ((-100003) : Int32).toInt = (-100003) := (by decide)
              have hP9 : va_P (dC, dI) classes (WM h g ca (u2 (u2 (u2 iv 12 19 (iv 12 19)) 12 41 (iv 12 41)) 12 67 (iv 12 67)) (u2 (u2 (u2 (u2 (u2 (u2 lv 12 17 (lv 12 17)) 12 18 (lv 12 18)) 12 44 (lv 12 44)) 12 45 (lv 12 45)) 12 46 (lv 12 46)) 12 47 (lv 12 47)) (u2 (u2 (u2 (u2 (u2 (u2 (u2 (u2 fa 12 39 (fa 12 39)) 12 40 (fa 12 40)) 12 68 (fa 12 68)) 12 69 (fa 12 69)) 12 71 (fa 12 71)) 12 72 (fa 12 72)) 12 73 (fa 12 73)) 12 74 (fa 12 74)) (u2 (u2 (u2 la 12 42 (la 12 42)) 12 43 (la 12 43)) 12 70 (la 12 70))) H := hP
              have hD9 : va_D A (WM h g ca (u2 (u2 (u2 iv 12 19 (iv 12 19)) 12 41 (iv 12 41)) 12 67 (iv 12 67)) (u2 (u2 (u2 (u2 (u2 (u2 lv 12 17 (lv 12 17)) 12 18 (lv 12 18)) 12 44 (lv 12 44)) 12 45 (lv 12 45)) 12 46 (lv 12 46)) 12 47 (lv 12 47)) (u2 (u2 (u2 (u2 (u2 (u2 (u2 (u2 fa 12 39 (fa 12 39)) 12 40 (fa 12 40)) 12 68 (fa 12 68)) 12 69 (fa 12 69)) 12 71 (fa 12 71)) 12 72 (fa 12 72)) 12 73 (fa 12 73)) 12 74 (fa 12 74)) (u2 (u2 (u2 la 12 42 (la 12 42)) 12 43 (la 12 43)) 12 70 (la 12 70))) := hD
              exact W.iret (v := (-100003)) hx hb hr (fun t ht9 hW => ⟨⟨(-100003), ((u2 (u2 (u2 iv 12 19 (iv 12 19)) 12 41 (iv 12 41)) 12 67 (iv 12 67)), (u2 (u2 (u2 (u2 (u2 (u2 lv 12 17 (lv 12 17)) 12 18 (lv 12 18)) 12 44 (lv 12 44)) 12 45 (lv 12 45)) 12 46 (lv 12 46)) 12 47 (lv 12 47)), (u2 (u2 (u2 (u2 (u2 (u2 (u2 (u2 fa 12 39 (fa 12 39)) 12 40 (fa 12 40)) 12 68 (fa 12 68)) 12 69 (fa 12 69)) 12 71 (fa 12 71)) 12 72 (fa 12 72)) 12 73 (fa 12 73)) 12 74 (fa 12 74)), (u2 (u2 (u2 la 12 42 (la 12 42)) 12 43 (la 12 43)) 12 70 (la 12 70))), rfl, ⟨(fa 12 39), (fa 12 40), (fa 12 68), (fa 12 69), (fa 12 71), (fa 12 72), (fa 12 73), (fa 12 74), (la 12 42), (la 12 43), (la 12 70), (iv 12 19), (iv 12 41), (iv 12 67), (lv 12 17), (lv 12 18), (lv 12 44), (lv 12 45), (lv 12 46), (lv 12 47), (hI.2 12 39), (hI.2 12 40), (hI.2 12 71), (hI.1 12 41), (hI.1 12 67), (show ((((-100003) : Int32).toInt = -100001 ∧ ¬ (0 ≤ (a).toInt ∧ (a).toInt < (iv 12 1).toInt) ∧ SmY (fa 12 68) (fa 12 69) (la 12 70) (fa 12 71) (fa 12 72) (fa 12 73) (fa 12 68) (fa 12 69) (la 12 70) (fa 12 71) (fa 12 72) (fa 12 73) ∧ ((iv 12 67) : Int32).toInt = (iv 12 67).toInt) ∨ (((-100003) : Int32).toInt = -100003 ∧ (0 ≤ (a).toInt ∧ (a).toInt < (iv 12 1).toInt) ∧ (CeY (iv 12 67).toInt (fa 12 68) (fa 12 69) (fa 12 73) (a).toInt ∨ ∃ (D R : Nat → Int64) (up dn ro : Int), LwT (fun q v => FoY (iv 12 23).toInt (fa 12 24) (fa 12 25) (fa 12 26) (fa 12 27) (fa 12 28) q (iv 12 0).toInt v) (fa 12 4) (fa 12 5) (fa 12 11) (fa 12 12) (fa 12 7) (fa 12 8) (a).toInt (iv 12 0).toInt ((iv 12 3).toInt).toNat D R up dn ro ∧ ro ≠ 1) ∧ SmY (fa 12 68) (fa 12 69) (la 12 70) (fa 12 71) (fa 12 72) (fa 12 73) (fa 12 68) (fa 12 69) (la 12 70) (fa 12 71) (fa 12 72) (fa 12 73) ∧ ((iv 12 67) : Int32).toInt = (iv 12 67).toInt) ∨ (((-100003) : Int32).toInt = -100004 ∧ (0 ≤ (a).toInt ∧ (a).toInt < (iv 12 1).toInt) ∧ ¬ CeY (iv 12 67).toInt (fa 12 68) (fa 12 69) (fa 12 73) (a).toInt ∧ (∃ (D R : Nat → Int64) (up dn ro : Int), LwT (fun q v => FoY (iv 12 23).toInt (fa 12 24) (fa 12 25) (fa 12 26) (fa 12 27) (fa 12 28) q (iv 12 0).toInt v) (fa 12 4) (fa 12 5) (fa 12 11) (fa 12 12) (fa 12 7) (fa 12 8) (a).toInt (iv 12 0).toInt ((iv 12 3).toInt).toNat D R up dn ro ∧ ro = 1) ∧ 40 ≤ (iv 12 67).toInt ∧ SmY (fa 12 68) (fa 12 69) (la 12 70) (fa 12 71) (fa 12 72) (fa 12 73) (fa 12 68) (fa 12 69) (la 12 70) (fa 12 71) (fa 12 72) (fa 12 73) ∧ ((iv 12 67) : Int32).toInt = (iv 12 67).toInt) ∨ ((0 ≤ (a).toInt ∧ (a).toInt < (iv 12 1).toInt) ∧ ¬ CeY (iv 12 67).toInt (fa 12 68) (fa 12 69) (fa 12 73) (a).toInt ∧ (iv 12 67).toInt < 40 ∧ ((-100003) : Int32).toInt = (iv 12 67).toInt ∧ ((iv 12 67) : Int32).toInt = (iv 12 67).toInt + 1 ∧ ∃ (D R : Nat → Int64) (up dn ro : Int), LwT (fun q v => FoY (iv 12 23).toInt (fa 12 24) (fa 12 25) (fa 12 26) (fa 12 27) (fa 12 28) q (iv 12 0).toInt v) (fa 12 4) (fa 12 5) (fa 12 11) (fa 12 12) (fa 12 7) (fa 12 8) (a).toInt (iv 12 0).toInt ((iv 12 3).toInt).toNat D R up dn ro ∧ ro = 1 ∧ ∃ wt LU LD : Int, FoY (iv 12 23).toInt (fa 12 24) (fa 12 25) (fa 12 26) (fa 12 27) (fa 12 28) 0 (iv 12 0).toInt wt ∧ 0 ≤ wt ∧ LwY up dn (((fa 12 2) ((a).toInt).toNat).toInt * (1000 + wt)) LU LD ∧ ApY ((iv 12 67).toInt).toNat (fa 12 68) (fa 12 69) (la 12 70) (fa 12 71) (fa 12 72) (fa 12 73) (fa 12 68) (fa 12 69) (la 12 70) (fa 12 71) (fa 12 72) (fa 12 73) 0 (a).toInt (LU / LD) (-1) (iv 12 0).toInt)) from (by
                    rcases hq936_0 with ⟨q1, p, q2, q3⟩ | ⟨q1, q2⟩
                    · exact Or.inr (Or.inl ⟨by omega, ⟨by omega, by omega⟩, Or.inl ⟨p, by omega, q3.1, q3.2.1, q3.2.2⟩, (fun j => ⟨rfl, rfl, rfl, rfl, rfl, rfl⟩), by omega⟩)
                    · exfalso; omega)), ⟨by decide, by decide⟩, rfl⟩, by rw [ht9]; exact hP9, hD9⟩, hS.F ht9⟩) hS.2.2 dX12_certify_86
            · have fc938 := z_eq (rfl : (x935_2).toInt = _) (by decide : (0 : Int32).toInt = 0) c938
              refine lv_aload_n hx hb dX12_certify_71 rfl (lv_at hl 2 rfl) ?_
              refine lv_iload_n hx hb dX12_certify_72 rfl (lv_at hl 3 rfl) ?_
              refine lv_aload_n hx hb dX12_certify_73 rfl (lv_at hl 2 rfl) ?_
              have i_12_0 : 0 ≤ (iv 12 0).toInt ∧ (iv 12 0).toInt ≤ 3000 := hI.1 12 0
              refine gM_12_0 hx hb ht hown hK hP m_1139 (v := (iv 12 0)) rfl dX12_certify_74 ?_
              have i_12_23 : 0 ≤ (iv 12 23).toInt ∧ (iv 12 23).toInt ≤ 8 := hI.1 12 23
              have i_12_3 : 0 ≤ (iv 12 3).toInt ∧ (iv 12 3).toInt ≤ 60 := hI.1 12 3
              have hFc := free_all hD hS hA
              refine va_calli (va_runV (As := [.int a, .int (iv 12 0)]) (rest := []) ⟨hx, hb, hml, hown, ht⟩ (c_X12_stateOf_w l dC dI H.size h g ca iv lv fa la hI a (iv 12 0) hJC hJR hJO hJK) (kV 2 ht m_1532 m_1534 m_58 m_89 m_1535 rfl rfl hd_X12_stateOf_v ⟨Nat.le_of_ble_eq_true rfl, Nat.le_of_ble_eq_true rfl⟩) (vW hP hK hD (rM_12 hK hP)) rfl rfl hl.1 rfl (lv_room (Nat.le_of_ble_eq_true rfl)) dX12_certify_77 ⟨Nat.le_of_ble_eq_true rfl, Nat.le_of_ble_eq_true rfl⟩) hS (fun q _ h => hFc q h) hFc (fun r939 u t H1 locs ht9 hvm hr939 hB hz1 hk1 hS => ?_)
              obtain ⟨n940, n941, n942, n943, n944, n945, n946, n947, n948, n949, hn940, hn941, hn945, xr939_0, hr939, rfl⟩ := hr939
              have hn945 : 0 ≤ n945.toInt ∧ n945.toInt ≤ 8 := hn945
              obtain ⟨hP, hD⟩ := hB
              rw [ht9] at hP
              generalize H1 = H at hP hS ⊢
              have hP : va_P (dC, dI) classes (WM h g ca (u2 (u2 iv 12 19 n944) 12 41 n945) (u2 (u2 (u2 (u2 lv 12 17 n946) 12 18 n947) 12 44 n948) 12 45 n949) (u2 (u2 fa 12 39 n940) 12 40 n941) (u2 (u2 la 12 42 n942) 12 43 n943)) H := hP
              have hD : va_D A (WM h g ca (u2 (u2 iv 12 19 n944) 12 41 n945) (u2 (u2 (u2 (u2 lv 12 17 n946) 12 18 n947) 12 44 n948) 12 45 n949) (u2 (u2 fa 12 39 n940) 12 40 n941) (u2 (u2 la 12 42 n942) 12 43 n943)) := (show va_D _ (WM h g ca (u2 (u2 iv 12 19 n944) 12 41 n945) (u2 (u2 (u2 (u2 lv 12 17 n946) 12 18 n947) 12 44 n948) 12 45 n949) (u2 (u2 fa 12 39 n940) 12 40 n941) (u2 (u2 la 12 42 n942) 12 43 n943)) from hD).weaken (fun _ _ _ h => hFc _ h)
              have xr939_0 : LwT (fun q v => FoY ((iv 12 23) : Int32).toInt (fa 12 24) (fa 12 25) (fa 12 26) (fa 12 27) (fa 12 28) q ((iv 12 0) : Int32).toInt v) (fa 12 4) (fa 12 5) (fa 12 11) (fa 12 12) (fa 12 7) (fa 12 8) (a : Int32).toInt ((iv 12 0) : Int32).toInt (((iv 12 3) : Int32).toInt).toNat n942 n943 (n948 : Int64).toInt (n949 : Int64).toInt (r939 : Int32).toInt := xr939_0
              refine lv_iconst (v := 1) hx hb dX12_certify_80 (by decide) ?_
              refine lv_icmp_eq (tgt := 87) hx hb dX12_certify_81 (by decide) (fun c950 => ?_) (fun c950 => ?_)
              · have fc950 := z_eq (rfl : (r939).toInt = _) (by decide : (1 : Int32).toInt = 1) c950
                have hb9 := LwT_b (F := (fun q v => FoY (iv 12 23).toInt (fa 12 24) (fa 12 25) (fa 12 26) (fa 12 27) (fa 12 28) q (iv 12 0).toInt v)) (fun v hv => f1_of (hJH 1 _ v (by decide) (by decide) hv)) (show (iv 12 3).toInt.toNat ≤ 60 from by have q9 : 0 ≤ (iv 12 3).toInt ∧ (iv 12 3).toInt ≤ 60 := hI.1 12 3; omega) (fun s hs => hJD s (by omega)) (hJN a) xr939_0 (by omega)
                obtain ⟨hb1, hb2, hb3, hb4⟩ := hb9
                refine lv_aload_n hx hb dX12_certify_87 rfl (lv_at hl 2 rfl) ?_
                refine gM_12_67 hx hb ht hown hK hP m_1206 (v := (iv 12 67)) rfl dX12_certify_88 ?_
                refine lv_bipush (v := 40) hx hb dX12_certify_91 (by decide) ?_
                refine lv_icmp_ne (tgt := 99) hx hb dX12_certify_93 (by decide) (fun c951 => ?_) (fun c951 => ?_)
                · have fc951 := z_ne (rfl : ((iv 12 67)).toInt = _) (by decide : (40 : Int32).toInt = 40) c951
                  refine lv_aload_n hx hb dX12_certify_99 rfl (lv_at hl 2 rfl) ?_
                  refine lv_iload_n hx hb dX12_certify_100 rfl (lv_at hl 3 rfl) ?_
                  refine lv_aload_n hx hb dX12_certify_101 rfl (lv_at hl 2 rfl) ?_
                  refine gM_12_44 hx hb ht hown hK hP m_1183 (v := n948) rfl dX12_certify_102 ?_
                  refine lv_aload_n hx hb dX12_certify_105 rfl (lv_at hl 2 rfl) ?_
                  refine gM_12_45 hx hb ht hown hK hP m_1184 (v := n949) rfl dX12_certify_106 ?_
                  refine lv_aload_n hx hb dX12_certify_109 rfl (lv_at hl 2 rfl) ?_
                  refine gM_12_0 hx hb ht hown hK hP m_1139 (v := (iv 12 0)) rfl dX12_certify_110 ?_
                  have hFc := free_all hD hS hA
                  refine va_callv (va_runV (As := [.int a, .long n948, .long n949, .int (iv 12 0)]) (rest := []) ⟨hx, hb, hml, hown, ht⟩ (c_X12_findLawful_w l dC dI H.size h g ca (u2 (u2 iv 12 19 n944) 12 41 n945) (u2 (u2 (u2 (u2 lv 12 17 n946) 12 18 n947) 12 44 n948) 12 45 n949) (u2 (u2 fa 12 39 n940) 12 40 n941) (u2 (u2 la 12 42 n942) 12 43 n943) (IX_a (c := 12) (k := 40) (IX_a (c := 12) (k := 39) (IX_i (c := 12) (k := 41) (IX_i (c := 12) (k := 19) hI (full_i _)) (show inb (0, 8) n945 from ⟨by omega, by omega⟩)) hn940) hn941) a n948 n949 (iv 12 0) ⟨by omega, by omega⟩ ⟨by omega, by omega⟩ ⟨by omega, by omega⟩ (show (a : Int32).toInt < ((iv 12 1) : Int32).toInt from by omega) hJC hJK hJH hJI) (kV 4 ht m_1563 m_1565 m_63 m_89 m_1566 rfl rfl hd_X12_findLawful_v ⟨Nat.le_of_ble_eq_true rfl, Nat.le_of_ble_eq_true rfl⟩) (vW hP hK hD (rM_12 hK hP)) rfl rfl hl.1 rfl (lv_room (Nat.le_of_ble_eq_true rfl)) dX12_certify_113 ⟨Nat.le_of_ble_eq_true rfl, Nat.le_of_ble_eq_true rfl⟩) hS (fun q _ h => hFc q h) hFc (fun u t H1 locs ht9 hvm hr952 hB hz1 hk1 hS => ?_)
                  obtain ⟨n953, n954, n955, n956, n957, hn953, hn954, hn955, xr952_0, rfl⟩ := hr952
                  have hn955 : 0 ≤ n955.toInt ∧ n955.toInt ≤ 8 := hn955
                  obtain ⟨hP, hD⟩ := hB
                  rw [ht9] at hP
                  generalize H1 = H at hP hS ⊢
                  have hP : va_P (dC, dI) classes (WM h g ca (u2 (u2 iv 12 19 n944) 12 41 n955) (u2 (u2 (u2 (u2 (u2 (u2 lv 12 17 n946) 12 18 n947) 12 44 n948) 12 45 n949) 12 46 n956) 12 47 n957) (u2 (u2 fa 12 39 n953) 12 40 n954) (u2 (u2 la 12 42 n942) 12 43 n943)) H := hP
                  have hD : va_D A (WM h g ca (u2 (u2 iv 12 19 n944) 12 41 n955) (u2 (u2 (u2 (u2 (u2 (u2 lv 12 17 n946) 12 18 n947) 12 44 n948) 12 45 n949) 12 46 n956) 12 47 n957) (u2 (u2 fa 12 39 n953) 12 40 n954) (u2 (u2 la 12 42 n942) 12 43 n943)) := (show va_D _ (WM h g ca (u2 (u2 iv 12 19 n944) 12 41 n955) (u2 (u2 (u2 (u2 (u2 (u2 lv 12 17 n946) 12 18 n947) 12 44 n948) 12 45 n949) 12 46 n956) 12 47 n957) (u2 (u2 fa 12 39 n953) 12 40 n954) (u2 (u2 la 12 42 n942) 12 43 n943)) from hD).weaken (fun _ _ _ h => hFc _ h)
                  have xr952_0 : ∃ wt : Int, FoY ((iv 12 23) : Int32).toInt (fa 12 24) (fa 12 25) (fa 12 26) (fa 12 27) (fa 12 28) 0 ((iv 12 0) : Int32).toInt wt ∧ 0 ≤ wt ∧ wt ≤ 300 ∧ LwY (n948 : Int64).toInt (n949 : Int64).toInt (((fa 12 2) ((a : Int32).toInt).toNat).toInt * (1000 + wt)) (n956 : Int64).toInt (n957 : Int64).toInt := xr952_0
                  refine lv_aload_n hx hb dX12_certify_116 rfl (lv_at hl 2 rfl) ?_
                  refine lv_iconst (v := 0) hx hb dX12_certify_117 (by decide) ?_
                  refine lv_iload_n hx hb dX12_certify_118 rfl (lv_at hl 3 rfl) ?_
                  refine lv_aload_n hx hb dX12_certify_119 rfl (lv_at hl 2 rfl) ?_
                  refine gM_12_46 hx hb ht hown hK hP m_1185 (v := n956) rfl dX12_certify_120 ?_
                  refine lv_aload_n hx hb dX12_certify_123 rfl (lv_at hl 2 rfl) ?_
                  refine gM_12_47 hx hb ht hown hK hP m_1186 (v := n957) rfl dX12_certify_124 ?_
                  obtain ⟨wt9, k1, k2, k3, k4⟩ := xr952_0
                  have k5 := k4.1
                  have k6 := k4.2.1
                  have zw958 : (n957 : Int64).toInt ≠ 0 := by omega
                  refine lv_ldiv hx hb dX12_certify_127 (l_nz rfl zw958) ?_
                  refine lv_topl (fun w958 ew958 => ?_)
                  have hd9 := l_divp ew958 rfl rfl (by omega) (by omega)
                  refine lv_iconst (v := (-1)) hx hb dX12_certify_128 (by decide) ?_
                  refine lv_aload_n hx hb dX12_certify_129 rfl (lv_at hl 2 rfl) ?_
                  refine lv_iconst (v := 4) hx hb dX12_certify_130 (by decide) ?_
                  refine lv_aload_n hx hb dX12_certify_131 rfl (lv_at hl 2 rfl) ?_
                  refine gM_12_0 hx hb ht hown hK hP m_1139 (v := (iv 12 0)) rfl dX12_certify_132 ?_
                  have hFc := free_all hD hS hA
                  refine va_calli (va_runV (As := [.int 4, .int (iv 12 0)]) (rest := [.int (-1), .long w958, .int a, .int 0, .ref h]) ⟨hx, hb, hml, hown, ht⟩ (c_X12_forceOf_f l dC dI H.size h g ca (u2 (u2 iv 12 19 n944) 12 41 n955) (u2 (u2 (u2 (u2 (u2 (u2 lv 12 17 n946) 12 18 n947) 12 44 n948) 12 45 n949) 12 46 n956) 12 47 n957) (u2 (u2 fa 12 39 n953) 12 40 n954) (u2 (u2 la 12 42 n942) 12 43 n943) (IX_a (c := 12) (k := 40) (IX_a (c := 12) (k := 39) (IX_i (c := 12) (k := 41) (IX_i (c := 12) (k := 19) hI (full_i _)) (show inb (0, 8) n955 from ⟨by omega, by omega⟩)) hn953) hn954) 4 (iv 12 0) ⟨by decide, by decide⟩ hJC hJK) (kV 2 ht m_1509 m_1511 m_55 m_89 m_1512 rfl rfl hd_X12_forceOf_v ⟨Nat.le_of_ble_eq_true rfl, Nat.le_of_ble_eq_true rfl⟩) (vW hP hK hD (rM_12 hK hP)) rfl rfl hl.1 rfl (lv_room (Nat.le_of_ble_eq_true rfl)) dX12_certify_135 ⟨Nat.le_of_ble_eq_true rfl, Nat.le_of_ble_eq_true rfl⟩) hS (fun q _ h => hFc q h) hFc (fun r959 u t H1 locs ht9 hvm hr959 hB hz1 hk1 hS => ?_)
                  obtain ⟨n960, n961, n962, hn960, hn961, hn962, xr959_0, hr959, rfl⟩ := hr959
                  have hn962 : 0 ≤ n962.toInt ∧ n962.toInt ≤ 8 := hn962
                  obtain ⟨hP, hD⟩ := hB
                  rw [ht9] at hP
                  generalize H1 = H at hP hS ⊢
                  have hP : va_P (dC, dI) classes (WM h g ca (u2 (u2 iv 12 19 n944) 12 41 n962) (u2 (u2 (u2 (u2 (u2 (u2 lv 12 17 n946) 12 18 n947) 12 44 n948) 12 45 n949) 12 46 n956) 12 47 n957) (u2 (u2 fa 12 39 n960) 12 40 n961) (u2 (u2 la 12 42 n942) 12 43 n943)) H := hP
                  have hD : va_D A (WM h g ca (u2 (u2 iv 12 19 n944) 12 41 n962) (u2 (u2 (u2 (u2 (u2 (u2 lv 12 17 n946) 12 18 n947) 12 44 n948) 12 45 n949) 12 46 n956) 12 47 n957) (u2 (u2 fa 12 39 n960) 12 40 n961) (u2 (u2 la 12 42 n942) 12 43 n943)) := (show va_D _ (WM h g ca (u2 (u2 iv 12 19 n944) 12 41 n962) (u2 (u2 (u2 (u2 (u2 (u2 lv 12 17 n946) 12 18 n947) 12 44 n948) 12 45 n949) 12 46 n956) 12 47 n957) (u2 (u2 fa 12 39 n960) 12 40 n961) (u2 (u2 la 12 42 n942) 12 43 n943)) from hD).weaken (fun _ _ _ h => hFc _ h)
                  have : (4 : Int32).toInt = 4 := (by decide)
                  have xr959_0 : FoY ((iv 12 23) : Int32).toInt (fa 12 24) (fa 12 25) (fa 12 26) (fa 12 27) (fa 12 28) (4 : Int32).toInt ((iv 12 0) : Int32).toInt (r959 : Int32).toInt := xr959_0
                  have hFc := free_all hD hS hA
                  refine va_callv (va_runV (As := [.int 0, .int a, .long w958, .int (-1), .int r959]) (rest := []) ⟨hx, hb, hml, hown, ht⟩ (c_X12_add_w l dC dI H.size h g ca (u2 (u2 iv 12 19 n944) 12 41 n962) (u2 (u2 (u2 (u2 (u2 (u2 lv 12 17 n946) 12 18 n947) 12 44 n948) 12 45 n949) 12 46 n956) 12 47 n957) (u2 (u2 fa 12 39 n960) 12 40 n961) (u2 (u2 la 12 42 n942) 12 43 n943) (IX_a (c := 12) (k := 40) (IX_a (c := 12) (k := 39) (IX_i (c := 12) (k := 41) (IX_i (c := 12) (k := 19) hI (full_i _)) (show inb (0, 8) n962 from ⟨by omega, by omega⟩)) hn960) hn961) 0 a w958 (-1) r959 (show 0 ≤ ((iv 12 67) : Int32).toInt ∧ ((iv 12 67) : Int32).toInt ≤ 39 from ⟨by omega, by omega⟩) ⟨by decide, by decide⟩) (kV 5 ht m_1676 m_1678 m_72 m_89 m_1679 rfl rfl hd_X12_add_v ⟨Nat.le_of_ble_eq_true rfl, Nat.le_of_ble_eq_true rfl⟩) (vW hP hK hD (rM_12 hK hP)) rfl rfl hl.1 rfl (lv_room (Nat.le_of_ble_eq_true rfl)) dX12_certify_138 ⟨Nat.le_of_ble_eq_true rfl, Nat.le_of_ble_eq_true rfl⟩) hS (fun q _ h => hFc q h) hFc (fun u t H1 locs ht9 hvm hr963 hB hz1 hk1 hS => ?_)
                  obtain ⟨n964, n965, n966, n967, n968, n969, n970, n971, hn966, hn971, dn971, xr963_0, rfl⟩ := hr963
                  have hn964 : ∀ j, inb (bA 12 68 j) (n964 j) := fun j => full_i _
                  have hn965 : ∀ j, inb (bA 12 69 j) (n965 j) := fun j => full_i _
                  have hn967 : ∀ j, inb (bA 12 72 j) (n967 j) := fun j => full_i _
                  have hn968 : ∀ j, inb (bA 12 73 j) (n968 j) := fun j => full_i _
                  have hn969 : ∀ j, inb (bA 12 74 j) (n969 j) := fun j => full_i _
                  have dn971 : n971.toInt = ((iv 12 67) : Int32).toInt + 1 := dn971
                  have hn971 : 0 ≤ n971.toInt ∧ n971.toInt ≤ 40 := hn971
                  obtain ⟨hP, hD⟩ := hB
                  rw [ht9] at hP
                  generalize H1 = H at hP hS ⊢
                  have hP : va_P (dC, dI) classes (WM h g ca (u2 (u2 (u2 iv 12 19 n944) 12 41 n962) 12 67 n971) (u2 (u2 (u2 (u2 (u2 (u2 lv 12 17 n946) 12 18 n947) 12 44 n948) 12 45 n949) 12 46 n956) 12 47 n957) (u2 (u2 (u2 (u2 (u2 (u2 (u2 (u2 fa 12 39 n960) 12 40 n961) 12 68 n964) 12 69 n965) 12 71 n966) 12 72 n967) 12 73 n968) 12 74 n969) (u2 (u2 (u2 la 12 42 n942) 12 43 n943) 12 70 n970)) H := hP
                  have hD : va_D A (WM h g ca (u2 (u2 (u2 iv 12 19 n944) 12 41 n962) 12 67 n971) (u2 (u2 (u2 (u2 (u2 (u2 lv 12 17 n946) 12 18 n947) 12 44 n948) 12 45 n949) 12 46 n956) 12 47 n957) (u2 (u2 (u2 (u2 (u2 (u2 (u2 (u2 fa 12 39 n960) 12 40 n961) 12 68 n964) 12 69 n965) 12 71 n966) 12 72 n967) 12 73 n968) 12 74 n969) (u2 (u2 (u2 la 12 42 n942) 12 43 n943) 12 70 n970)) := (show va_D _ (WM h g ca (u2 (u2 (u2 iv 12 19 n944) 12 41 n962) 12 67 n971) (u2 (u2 (u2 (u2 (u2 (u2 lv 12 17 n946) 12 18 n947) 12 44 n948) 12 45 n949) 12 46 n956) 12 47 n957) (u2 (u2 (u2 (u2 (u2 (u2 (u2 (u2 fa 12 39 n960) 12 40 n961) 12 68 n964) 12 69 n965) 12 71 n966) 12 72 n967) 12 73 n968) 12 74 n969) (u2 (u2 (u2 la 12 42 n942) 12 43 n943) 12 70 n970)) from hD).weaken (fun _ _ _ h => hFc _ h)
                  have : (0 : Int32).toInt = 0 := (by decide)
                  have : ((-1) : Int32).toInt = (-1) := (by decide)
                  have xr963_0 : ApY (((iv 12 67) : Int32).toInt).toNat (fa 12 68) (fa 12 69) (la 12 70) (fa 12 71) (fa 12 72) (fa 12 73) n964 n965 n970 n966 n967 n968 (0 : Int32).toInt (a : Int32).toInt (w958 : Int64).toInt ((-1) : Int32).toInt ((iv 12 0) : Int32).toInt := xr963_0
                  refine lv_aload_n hx hb dX12_certify_141 rfl (lv_at hl 2 rfl) ?_
                  refine gM_12_67 hx hb ht hown hK hP m_1206 (v := n971) rfl dX12_certify_142 ?_
                  refine lv_iconst (v := 1) hx hb dX12_certify_145 (by decide) ?_
                  refine lv_isub hx hb dX12_certify_146 ?_
                  refine lv_topi (fun v972 ev972 => ?_)
                  have tv972 := z_sub ev972 (rfl : (n971).toInt = _) (by decide : (1 : Int32).toInt = 1) (by omega) (by omega)
                  have hP9 : va_P (dC, dI) classes (WM h g ca (u2 (u2 (u2 iv 12 19 n944) 12 41 n962) 12 67 n971) (u2 (u2 (u2 (u2 (u2 (u2 lv 12 17 n946) 12 18 n947) 12 44 n948) 12 45 n949) 12 46 n956) 12 47 n957) (u2 (u2 (u2 (u2 (u2 (u2 (u2 (u2 fa 12 39 n960) 12 40 n961) 12 68 n964) 12 69 n965) 12 71 n966) 12 72 n967) 12 73 n968) 12 74 n969) (u2 (u2 (u2 la 12 42 n942) 12 43 n943) 12 70 n970)) H := hP
                  have hD9 : va_D A (WM h g ca (u2 (u2 (u2 iv 12 19 n944) 12 41 n962) 12 67 n971) (u2 (u2 (u2 (u2 (u2 (u2 lv 12 17 n946) 12 18 n947) 12 44 n948) 12 45 n949) 12 46 n956) 12 47 n957) (u2 (u2 (u2 (u2 (u2 (u2 (u2 (u2 fa 12 39 n960) 12 40 n961) 12 68 n964) 12 69 n965) 12 71 n966) 12 72 n967) 12 73 n968) 12 74 n969) (u2 (u2 (u2 la 12 42 n942) 12 43 n943) 12 70 n970)) := hD
                  exact W.iret (v := v972) hx hb hr (fun t ht9 hW => ⟨⟨v972, ((u2 (u2 (u2 iv 12 19 n944) 12 41 n962) 12 67 n971), (u2 (u2 (u2 (u2 (u2 (u2 lv 12 17 n946) 12 18 n947) 12 44 n948) 12 45 n949) 12 46 n956) 12 47 n957), (u2 (u2 (u2 (u2 (u2 (u2 (u2 (u2 fa 12 39 n960) 12 40 n961) 12 68 n964) 12 69 n965) 12 71 n966) 12 72 n967) 12 73 n968) 12 74 n969), (u2 (u2 (u2 la 12 42 n942) 12 43 n943) 12 70 n970)), rfl, ⟨n960, n961, n964, n965, n966, n967, n968, n969, n942, n943, n970, n944, n962, n971, n946, n947, n948, n949, n956, n957, hn960, hn961, hn966, (show inb (0, 8) n962 from ⟨by omega, by omega⟩), (show inb (0, 40) n971 from ⟨by omega, by omega⟩), (show (((v972 : Int32).toInt = -100001 ∧ ¬ (0 ≤ (a).toInt ∧ (a).toInt < (iv 12 1).toInt) ∧ SmY (fa 12 68) (fa 12 69) (la 12 70) (fa 12 71) (fa 12 72) (fa 12 73) n964 n965 n970 n966 n967 n968 ∧ (n971 : Int32).toInt = (iv 12 67).toInt) ∨ ((v972 : Int32).toInt = -100003 ∧ (0 ≤ (a).toInt ∧ (a).toInt < (iv 12 1).toInt) ∧ (CeY (iv 12 67).toInt (fa 12 68) (fa 12 69) (fa 12 73) (a).toInt ∨ ∃ (D R : Nat → Int64) (up dn ro : Int), LwT (fun q v => FoY (iv 12 23).toInt (fa 12 24) (fa 12 25) (fa 12 26) (fa 12 27) (fa 12 28) q (iv 12 0).toInt v) (fa 12 4) (fa 12 5) (fa 12 11) (fa 12 12) (fa 12 7) (fa 12 8) (a).toInt (iv 12 0).toInt ((iv 12 3).toInt).toNat D R up dn ro ∧ ro ≠ 1) ∧ SmY (fa 12 68) (fa 12 69) (la 12 70) (fa 12 71) (fa 12 72) (fa 12 73) n964 n965 n970 n966 n967 n968 ∧ (n971 : Int32).toInt = (iv 12 67).toInt) ∨ ((v972 : Int32).toInt = -100004 ∧ (0 ≤ (a).toInt ∧ (a).toInt < (iv 12 1).toInt) ∧ ¬ CeY (iv 12 67).toInt (fa 12 68) (fa 12 69) (fa 12 73) (a).toInt ∧ (∃ (D R : Nat → Int64) (up dn ro : Int), LwT (fun q v => FoY (iv 12 23).toInt (fa 12 24) (fa 12 25) (fa 12 26) (fa 12 27) (fa 12 28) q (iv 12 0).toInt v) (fa 12 4) (fa 12 5) (fa 12 11) (fa 12 12) (fa 12 7) (fa 12 8) (a).toInt (iv 12 0).toInt ((iv 12 3).toInt).toNat D R up dn ro ∧ ro = 1) ∧ 40 ≤ (iv 12 67).toInt ∧ SmY (fa 12 68) (fa 12 69) (la 12 70) (fa 12 71) (fa 12 72) (fa 12 73) n964 n965 n970 n966 n967 n968 ∧ (n971 : Int32).toInt = (iv 12 67).toInt) ∨ ((0 ≤ (a).toInt ∧ (a).toInt < (iv 12 1).toInt) ∧ ¬ CeY (iv 12 67).toInt (fa 12 68) (fa 12 69) (fa 12 73) (a).toInt ∧ (iv 12 67).toInt < 40 ∧ (v972 : Int32).toInt = (iv 12 67).toInt ∧ (n971 : Int32).toInt = (iv 12 67).toInt + 1 ∧ ∃ (D R : Nat → Int64) (up dn ro : Int), LwT (fun q v => FoY (iv 12 23).toInt (fa 12 24) (fa 12 25) (fa 12 26) (fa 12 27) (fa 12 28) q (iv 12 0).toInt v) (fa 12 4) (fa 12 5) (fa 12 11) (fa 12 12) (fa 12 7) (fa 12 8) (a).toInt (iv 12 0).toInt ((iv 12 3).toInt).toNat D R up dn ro ∧ ro = 1 ∧ ∃ wt LU LD : Int, FoY (iv 12 23).toInt (fa 12 24) (fa 12 25) (fa 12 26) (fa 12 27) (fa 12 28) 0 (iv 12 0).toInt wt ∧ 0 ≤ wt ∧ LwY up dn (((fa 12 2) ((a).toInt).toNat).toInt * (1000 + wt)) LU LD ∧ ApY ((iv 12 67).toInt).toNat (fa 12 68) (fa 12 69) (la 12 70) (fa 12 71) (fa 12 72) (fa 12 73) n964 n965 n970 n966 n967 n968 0 (a).toInt (LU / LD) (-1) (iv 12 0).toInt)) from (by have hx9 := xr963_0; rw [hd9, show (0 : Int32).toInt = 0 from by decide, show (-1 : Int32).toInt = -1 from by decide] at hx9; exact Or.inr (Or.inr (Or.inr ⟨⟨by omega, by omega⟩, (by
                        rcases hq936_0 with ⟨q1, p, q2, q3⟩ | ⟨q1, q2⟩
                        · exfalso; omega
                        · exact fun ⟨p, z1, z2, z3, z4⟩ => q2 p (by omega) ⟨z2, z3, z4⟩), by omega, by omega, by omega, ⟨n942, n943, (n948 : Int64).toInt, (n949 : Int64).toInt, _, xr939_0, by omega, wt9, _, _, k1, k2, k4, hx9⟩⟩)))), ⟨by omega, by omega⟩, rfl⟩, by rw [ht9]; exact hP9, hD9⟩, hS.F ht9⟩) hS.2.2 dX12_certify_147
                · have fc951 := z_eq (rfl : ((iv 12 67)).toInt = _) (by decide : (40 : Int32).toInt = 40) c951
                  refine lv_ldc hx hb hown (ht _ m_1380) dX12_certify_96 ?_
                  have : ((-100004) : Int32).toInt = (-100004) := (by decide)
                  have hP9 : va_P (dC, dI) classes (WM h g ca (u2 (u2 (u2 iv 12 19 n944) 12 41 n945) 12 67 (iv 12 67)) (u2 (u2 (u2 (u2 (u2 (u2 lv 12 17 n946) 12 18 n947) 12 44 n948) 12 45 n949) 12 46 (lv 12 46)) 12 47 (lv 12 47)) (u2 (u2 (u2 (u2 (u2 (u2 (u2 (u2 fa 12 39 n940) 12 40 n941) 12 68 (fa 12 68)) 12 69 (fa 12 69)) 12 71 (fa 12 71)) 12 72 (fa 12 72)) 12 73 (fa 12 73)) 12 74 (fa 12 74)) (u2 (u2 (u2 la 12 42 n942) 12 43 n943) 12 70 (la 12 70))) H := hP
                  have hD9 : va_D A (WM h g ca (u2 (u2 (u2 iv 12 19 n944) 12 41 n945) 12 67 (iv 12 67)) (u2 (u2 (u2 (u2 (u2 (u2 lv 12 17 n946) 12 18 n947) 12 44 n948) 12 45 n949) 12 46 (lv 12 46)) 12 47 (lv 12 47)) (u2 (u2 (u2 (u2 (u2 (u2 (u2 (u2 fa 12 39 n940) 12 40 n941) 12 68 (fa 12 68)) 12 69 (fa 12 69)) 12 71 (fa 12 71)) 12 72 (fa 12 72)) 12 73 (fa 12 73)) 12 74 (fa 12 74)) (u2 (u2 (u2 la 12 42 n942) 12 43 n943) 12 70 (la 12 70))) := hD
                  exact W.iret (v := (-100004)) hx hb hr (fun t ht9 hW => ⟨⟨(-100004), ((u2 (u2 (u2 iv 12 19 n944) 12 41 n945) 12 67 (iv 12 67)), (u2 (u2 (u2 (u2 (u2 (u2 lv 12 17 n946) 12 18 n947) 12 44 n948) 12 45 n949) 12 46 (lv 12 46)) 12 47 (lv 12 47)), (u2 (u2 (u2 (u2 (u2 (u2 (u2 (u2 fa 12 39 n940) 12 40 n941) 12 68 (fa 12 68)) 12 69 (fa 12 69)) 12 71 (fa 12 71)) 12 72 (fa 12 72)) 12 73 (fa 12 73)) 12 74 (fa 12 74)), (u2 (u2 (u2 la 12 42 n942) 12 43 n943) 12 70 (la 12 70))), rfl, ⟨n940, n941, (fa 12 68), (fa 12 69), (fa 12 71), (fa 12 72), (fa 12 73), (fa 12 74), n942, n943, (la 12 70), n944, n945, (iv 12 67), n946, n947, n948, n949, (lv 12 46), (lv 12 47), hn940, hn941, (hI.2 12 71), (show inb (0, 8) n945 from ⟨by omega, by omega⟩), (hI.1 12 67), (show ((((-100004) : Int32).toInt = -100001 ∧ ¬ (0 ≤ (a).toInt ∧ (a).toInt < (iv 12 1).toInt) ∧ SmY (fa 12 68) (fa 12 69) (la 12 70) (fa 12 71) (fa 12 72) (fa 12 73) (fa 12 68) (fa 12 69) (la 12 70) (fa 12 71) (fa 12 72) (fa 12 73) ∧ ((iv 12 67) : Int32).toInt = (iv 12 67).toInt) ∨ (((-100004) : Int32).toInt = -100003 ∧ (0 ≤ (a).toInt ∧ (a).toInt < (iv 12 1).toInt) ∧ (CeY (iv 12 67).toInt (fa 12 68) (fa 12 69) (fa 12 73) (a).toInt ∨ ∃ (D R : Nat → Int64) (up dn ro : Int), LwT (fun q v => FoY (iv 12 23).toInt (fa 12 24) (fa 12 25) (fa 12 26) (fa 12 27) (fa 12 28) q (iv 12 0).toInt v) (fa 12 4) (fa 12 5) (fa 12 11) (fa 12 12) (fa 12 7) (fa 12 8) (a).toInt (iv 12 0).toInt ((iv 12 3).toInt).toNat D R up dn ro ∧ ro ≠ 1) ∧ SmY (fa 12 68) (fa 12 69) (la 12 70) (fa 12 71) (fa 12 72) (fa 12 73) (fa 12 68) (fa 12 69) (la 12 70) (fa 12 71) (fa 12 72) (fa 12 73) ∧ ((iv 12 67) : Int32).toInt = (iv 12 67).toInt) ∨ (((-100004) : Int32).toInt = -100004 ∧ (0 ≤ (a).toInt ∧ (a).toInt < (iv 12 1).toInt) ∧ ¬ CeY (iv 12 67).toInt (fa 12 68) (fa 12 69) (fa 12 73) (a).toInt ∧ (∃ (D R : Nat → Int64) (up dn ro : Int), LwT (fun q v => FoY (iv 12 23).toInt (fa 12 24) (fa 12 25) (fa 12 26) (fa 12 27) (fa 12 28) q (iv 12 0).toInt v) (fa 12 4) (fa 12 5) (fa 12 11) (fa 12 12) (fa 12 7) (fa 12 8) (a).toInt (iv 12 0).toInt ((iv 12 3).toInt).toNat D R up dn ro ∧ ro = 1) ∧ 40 ≤ (iv 12 67).toInt ∧ SmY (fa 12 68) (fa 12 69) (la 12 70) (fa 12 71) (fa 12 72) (fa 12 73) (fa 12 68) (fa 12 69) (la 12 70) (fa 12 71) (fa 12 72) (fa 12 73) ∧ ((iv 12 67) : Int32).toInt = (iv 12 67).toInt) ∨ ((0 ≤ (a).toInt ∧ (a).toInt < (iv 12 1).toInt) ∧ ¬ CeY (iv 12 67).toInt (fa 12 68) (fa 12 69) (fa 12 73) (a).toInt ∧ (iv 12 67).toInt < 40 ∧ ((-100004) : Int32).toInt = (iv 12 67).toInt ∧ ((iv 12 67) : Int32).toInt = (iv 12 67).toInt + 1 ∧ ∃ (D R : Nat → Int64) (up dn ro : Int), LwT (fun q v => FoY (iv 12 23).toInt (fa 12 24) (fa 12 25) (fa 12 26) (fa 12 27) (fa 12 28) q (iv 12 0).toInt v) (fa 12 4) (fa 12 5) (fa 12 11) (fa 12 12) (fa 12 7) (fa 12 8) (a).toInt (iv 12 0).toInt ((iv 12 3).toInt).toNat D R up dn ro ∧ ro = 1 ∧ ∃ wt LU LD : Int, FoY (iv 12 23).toInt (fa 12 24) (fa 12 25) (fa 12 26) (fa 12 27) (fa 12 28) 0 (iv 12 0).toInt wt ∧ 0 ≤ wt ∧ LwY up dn (((fa 12 2) ((a).toInt).toNat).toInt * (1000 + wt)) LU LD ∧ ApY ((iv 12 67).toInt).toNat (fa 12 68) (fa 12 69) (la 12 70) (fa 12 71) (fa 12 72) (fa 12 73) (fa 12 68) (fa 12 69) (la 12 70) (fa 12 71) (fa 12 72) (fa 12 73) 0 (a).toInt (LU / LD) (-1) (iv 12 0).toInt)) from Or.inr (Or.inr (Or.inl ⟨by omega, ⟨by omega, by omega⟩, (by
                        rcases hq936_0 with ⟨q1, p, q2, q3⟩ | ⟨q1, q2⟩
                        · exfalso; omega
                        · exact fun ⟨p, z1, z2, z3, z4⟩ => q2 p (by omega) ⟨z2, z3, z4⟩), ⟨n942, n943, (n948 : Int64).toInt, (n949 : Int64).toInt, _, xr939_0, by omega⟩, by omega, (fun j => ⟨rfl, rfl, rfl, rfl, rfl, rfl⟩), by omega⟩))), ⟨by decide, by decide⟩, rfl⟩, by rw [ht9]; exact hP9, hD9⟩, hS.F ht9⟩) hS.2.2 dX12_certify_98
              · have fc950 := z_ne (rfl : (r939).toInt = _) (by decide : (1 : Int32).toInt = 1) c950
                refine lv_ldc hx hb hown (ht _ m_1374) dX12_certify_84 ?_
                have : ((-100003) : Int32).toInt = (-100003) := (by decide)
                have hP9 : va_P (dC, dI) classes (WM h g ca (u2 (u2 (u2 iv 12 19 n944) 12 41 n945) 12 67 (iv 12 67)) (u2 (u2 (u2 (u2 (u2 (u2 lv 12 17 n946) 12 18 n947) 12 44 n948) 12 45 n949) 12 46 (lv 12 46)) 12 47 (lv 12 47)) (u2 (u2 (u2 (u2 (u2 (u2 (u2 (u2 fa 12 39 n940) 12 40 n941) 12 68 (fa 12 68)) 12 69 (fa 12 69)) 12 71 (fa 12 71)) 12 72 (fa 12 72)) 12 73 (fa 12 73)) 12 74 (fa 12 74)) (u2 (u2 (u2 la 12 42 n942) 12 43 n943) 12 70 (la 12 70))) H := hP
                have hD9 : va_D A (WM h g ca (u2 (u2 (u2 iv 12 19 n944) 12 41 n945) 12 67 (iv 12 67)) (u2 (u2 (u2 (u2 (u2 (u2 lv 12 17 n946) 12 18 n947) 12 44 n948) 12 45 n949) 12 46 (lv 12 46)) 12 47 (lv 12 47)) (u2 (u2 (u2 (u2 (u2 (u2 (u2 (u2 fa 12 39 n940) 12 40 n941) 12 68 (fa 12 68)) 12 69 (fa 12 69)) 12 71 (fa 12 71)) 12 72 (fa 12 72)) 12 73 (fa 12 73)) 12 74 (fa 12 74)) (u2 (u2 (u2 la 12 42 n942) 12 43 n943) 12 70 (la 12 70))) := hD
                exact W.iret (v := (-100003)) hx hb hr (fun t ht9 hW => ⟨⟨(-100003), ((u2 (u2 (u2 iv 12 19 n944) 12 41 n945) 12 67 (iv 12 67)), (u2 (u2 (u2 (u2 (u2 (u2 lv 12 17 n946) 12 18 n947) 12 44 n948) 12 45 n949) 12 46 (lv 12 46)) 12 47 (lv 12 47)), (u2 (u2 (u2 (u2 (u2 (u2 (u2 (u2 fa 12 39 n940) 12 40 n941) 12 68 (fa 12 68)) 12 69 (fa 12 69)) 12 71 (fa 12 71)) 12 72 (fa 12 72)) 12 73 (fa 12 73)) 12 74 (fa 12 74)), (u2 (u2 (u2 la 12 42 n942) 12 43 n943) 12 70 (la 12 70))), rfl, ⟨n940, n941, (fa 12 68), (fa 12 69), (fa 12 71), (fa 12 72), (fa 12 73), (fa 12 74), n942, n943, (la 12 70), n944, n945, (iv 12 67), n946, n947, n948, n949, (lv 12 46), (lv 12 47), hn940, hn941, (hI.2 12 71), (show inb (0, 8) n945 from ⟨by omega, by omega⟩), (hI.1 12 67), (show ((((-100003) : Int32).toInt = -100001 ∧ ¬ (0 ≤ (a).toInt ∧ (a).toInt < (iv 12 1).toInt) ∧ SmY (fa 12 68) (fa 12 69) (la 12 70) (fa 12 71) (fa 12 72) (fa 12 73) (fa 12 68) (fa 12 69) (la 12 70) (fa 12 71) (fa 12 72) (fa 12 73) ∧ ((iv 12 67) : Int32).toInt = (iv 12 67).toInt) ∨ (((-100003) : Int32).toInt = -100003 ∧ (0 ≤ (a).toInt ∧ (a).toInt < (iv 12 1).toInt) ∧ (CeY (iv 12 67).toInt (fa 12 68) (fa 12 69) (fa 12 73) (a).toInt ∨ ∃ (D R : Nat → Int64) (up dn ro : Int), LwT (fun q v => FoY (iv 12 23).toInt (fa 12 24) (fa 12 25) (fa 12 26) (fa 12 27) (fa 12 28) q (iv 12 0).toInt v) (fa 12 4) (fa 12 5) (fa 12 11) (fa 12 12) (fa 12 7) (fa 12 8) (a).toInt (iv 12 0).toInt ((iv 12 3).toInt).toNat D R up dn ro ∧ ro ≠ 1) ∧ SmY (fa 12 68) (fa 12 69) (la 12 70) (fa 12 71) (fa 12 72) (fa 12 73) (fa 12 68) (fa 12 69) (la 12 70) (fa 12 71) (fa 12 72) (fa 12 73) ∧ ((iv 12 67) : Int32).toInt = (iv 12 67).toInt) ∨ (((-100003) : Int32).toInt = -100004 ∧ (0 ≤ (a).toInt ∧ (a).toInt < (iv 12 1).toInt) ∧ ¬ CeY (iv 12 67).toInt (fa 12 68) (fa 12 69) (fa 12 73) (a).toInt ∧ (∃ (D R : Nat → Int64) (up dn ro : Int), LwT (fun q v => FoY (iv 12 23).toInt (fa 12 24) (fa 12 25) (fa 12 26) (fa 12 27) (fa 12 28) q (iv 12 0).toInt v) (fa 12 4) (fa 12 5) (fa 12 11) (fa 12 12) (fa 12 7) (fa 12 8) (a).toInt (iv 12 0).toInt ((iv 12 3).toInt).toNat D R up dn ro ∧ ro = 1) ∧ 40 ≤ (iv 12 67).toInt ∧ SmY (fa 12 68) (fa 12 69) (la 12 70) (fa 12 71) (fa 12 72) (fa 12 73) (fa 12 68) (fa 12 69) (la 12 70) (fa 12 71) (fa 12 72) (fa 12 73) ∧ ((iv 12 67) : Int32).toInt = (iv 12 67).toInt) ∨ ((0 ≤ (a).toInt ∧ (a).toInt < (iv 12 1).toInt) ∧ ¬ CeY (iv 12 67).toInt (fa 12 68) (fa 12 69) (fa 12 73) (a).toInt ∧ (iv 12 67).toInt < 40 ∧ ((-100003) : Int32).toInt = (iv 12 67).toInt ∧ ((iv 12 67) : Int32).toInt = (iv 12 67).toInt + 1 ∧ ∃ (D R : Nat → Int64) (up dn ro : Int), LwT (fun q v => FoY (iv 12 23).toInt (fa 12 24) (fa 12 25) (fa 12 26) (fa 12 27) (fa 12 28) q (iv 12 0).toInt v) (fa 12 4) (fa 12 5) (fa 12 11) (fa 12 12) (fa 12 7) (fa 12 8) (a).toInt (iv 12 0).toInt ((iv 12 3).toInt).toNat D R up dn ro ∧ ro = 1 ∧ ∃ wt LU LD : Int, FoY (iv 12 23).toInt (fa 12 24) (fa 12 25) (fa 12 26) (fa 12 27) (fa 12 28) 0 (iv 12 0).toInt wt ∧ 0 ≤ wt ∧ LwY up dn (((fa 12 2) ((a).toInt).toNat).toInt * (1000 + wt)) LU LD ∧ ApY ((iv 12 67).toInt).toNat (fa 12 68) (fa 12 69) (la 12 70) (fa 12 71) (fa 12 72) (fa 12 73) (fa 12 68) (fa 12 69) (la 12 70) (fa 12 71) (fa 12 72) (fa 12 73) 0 (a).toInt (LU / LD) (-1) (iv 12 0).toInt)) from Or.inr (Or.inl ⟨by omega, ⟨by omega, by omega⟩, Or.inr ⟨n942, n943, (n948 : Int64).toInt, (n949 : Int64).toInt, _, xr939_0, by omega⟩, (fun j => ⟨rfl, rfl, rfl, rfl, rfl, rfl⟩), by omega⟩)), ⟨by decide, by decide⟩, rfl⟩, by rw [ht9]; exact hP9, hD9⟩, hS.F ht9⟩) hS.2.2 dX12_certify_86
          · have fc937 := z_nle (rfl : ((iv 12 67)).toInt = _) (rfl : (x935_3).toInt = _) c937
            refine lv_iload_n hx hb dX12_certify_23 rfl (lv_at hl 1 rfl) ?_
            refine lv_if_ne (tgt := 55) hx hb dX12_certify_24 (by decide) (fun c973 => ?_) (fun c973 => ?_)
            · have fc973 := z_ne (rfl : (x935_2).toInt = _) (by decide : (0 : Int32).toInt = 0) c973
              refine lv_iconst (v := 1) hx hb dX12_certify_55 (by decide) ?_
              refine lv_goto (tgt := 60) hx hb dX12_certify_56 (by decide) ?_
              refine lv_istore_n (lv' := [(2, .int 1), (3, .int x935_3), (0, .ref h), (1, .int a)]) hx hb dX12_certify_60 rfl hl (by decide) rfl (fun ls hl => ?_)
              obtain ⟨v974, ev974⟩ : ∃ y : Int32, y = x935_3 + 1 := ⟨_, rfl⟩
              have tv974 := z_add ev974 rfl (by decide : (1 : Int32).toInt = 1) (by omega) (by omega)
              refine lv_iinc (v := v974) (lv' := [(3, .int v974), (2, .int 1), (0, .ref h), (1, .int a)]) hx hb dX12_certify_61 hl (k := 1) rfl (by rw [ev974]; rfl) (by decide) rfl (fun ls hl => ?_)
              refine lv_goto (tgt := 15) hx hb dX12_certify_64 (by decide) ?_
              have : (1 : Int32).toInt = 1 := (by decide)
              exact ih936 v974 1 ⟨by omega, by omega⟩ ⟨by decide, by decide⟩ (show (((1 : Int32).toInt = 1 ∧ ∃ p : Nat, (p : Int) < (v974 : Int32).toInt ∧ (((fa 12 68) p).toInt = 0 ∧ ((fa 12 69) p).toInt = (a).toInt ∧ ((fa 12 73) p).toInt < 0)) ∨ ((1 : Int32).toInt = 0 ∧ ∀ p : Nat, (p : Int) < (v974 : Int32).toInt → ¬ (((fa 12 68) p).toInt = 0 ∧ ((fa 12 69) p).toInt = (a).toInt ∧ ((fa 12 73) p).toInt < 0))) from (by
                    rcases hq936_0 with ⟨q1, p, q2, q3⟩ | ⟨q1, q2⟩
                    · exact Or.inl ⟨by omega, p, by omega, q3⟩
                    · exact Or.inl ⟨by omega, ((x935_3 : Int32).toInt).toNat, by omega, (show (fa 12 68 ((x935_3 : Int32).toInt).toNat).toInt = 0 ∧ (fa 12 69 ((x935_3 : Int32).toInt).toNat).toInt = a.toInt ∧ (fa 12 73 ((x935_3 : Int32).toInt).toNat).toInt < 0 from by omega)⟩)) (show (v974 : Int32).toInt ≤ ((iv 12 67) : Int32).toInt from by omega) (by omega) _ _ ls hP hD hS (lv_sub hl [0, 1, 2, 3] rfl)
            · have fc973 := z_eq (rfl : (x935_2).toInt = _) (by decide : (0 : Int32).toInt = 0) c973
              refine lv_aload_n hx hb dX12_certify_27 rfl (lv_at hl 2 rfl) ?_
              refine gM_12_68 hx hb ht hown hK hP m_1207 dX12_certify_28 ?_
              refine lv_iload_n hx hb dX12_certify_31 rfl (lv_at hl 0 rfl) ?_
              refine lM_12_68 hx hb hK hP (f := (fa 12 68)) rfl (vp_in_iff.mpr ⟨by omega, by omega⟩) dX12_certify_32 ?_
              refine lv_topi (fun v975 ev975 => ?_)
              refine lv_if_ne (tgt := 59) hx hb dX12_certify_33 (by decide) (fun c976 => ?_) (fun c976 => ?_)
              · have fc976 := z_ne (rfl : (v975).toInt = _) (by decide : (0 : Int32).toInt = 0) c976
                refine lv_iconst (v := 0) hx hb dX12_certify_59 (by decide) ?_
                refine lv_istore_n (lv' := [(2, .int 0), (3, .int x935_3), (0, .ref h), (1, .int a)]) hx hb dX12_certify_60 rfl hl (by decide) rfl (fun ls hl => ?_)
                obtain ⟨v977, ev977⟩ : ∃ y : Int32, y = x935_3 + 1 := ⟨_, rfl⟩
                have tv977 := z_add ev977 rfl (by decide : (1 : Int32).toInt = 1) (by omega) (by omega)
                refine lv_iinc (v := v977) (lv' := [(3, .int v977), (2, .int 0), (0, .ref h), (1, .int a)]) hx hb dX12_certify_61 hl (k := 1) rfl (by rw [ev977]; rfl) (by decide) rfl (fun ls hl => ?_)
                refine lv_goto (tgt := 15) hx hb dX12_certify_64 (by decide) ?_
                have : (0 : Int32).toInt = 0 := (by decide)
                exact ih936 v977 0 ⟨by omega, by omega⟩ ⟨by decide, by decide⟩ (show (((0 : Int32).toInt = 1 ∧ ∃ p : Nat, (p : Int) < (v977 : Int32).toInt ∧ (((fa 12 68) p).toInt = 0 ∧ ((fa 12 69) p).toInt = (a).toInt ∧ ((fa 12 73) p).toInt < 0)) ∨ ((0 : Int32).toInt = 0 ∧ ∀ p : Nat, (p : Int) < (v977 : Int32).toInt → ¬ (((fa 12 68) p).toInt = 0 ∧ ((fa 12 69) p).toInt = (a).toInt ∧ ((fa 12 73) p).toInt < 0))) from (by
                      have z9_68 := congrArg Int32.toInt (show v975 = fa 12 68 ((x935_3 : Int32).toInt).toNat from ev975)
                      rcases hq936_0 with ⟨q1, p, q2, q3⟩ | ⟨q1, q2⟩
                      · exfalso; omega
                      · refine Or.inr ⟨by omega, fun p hp => ?_⟩
                        by_cases hj : (p : Int) < (x935_3 : Int32).toInt
                        · exact q2 p hj
                        · have hj2 : p = ((x935_3 : Int32).toInt).toNat := by omega
                          rw [hj2]
                          show ¬ ((fa 12 68 ((x935_3 : Int32).toInt).toNat).toInt = 0 ∧ (fa 12 69 ((x935_3 : Int32).toInt).toNat).toInt = a.toInt ∧ (fa 12 73 ((x935_3 : Int32).toInt).toNat).toInt < 0)
                          omega)) (show (v977 : Int32).toInt ≤ ((iv 12 67) : Int32).toInt from by omega) (by omega) _ _ ls hP hD hS (lv_sub hl [0, 1, 2, 3] rfl)
              · have fc976 := z_eq (rfl : (v975).toInt = _) (by decide : (0 : Int32).toInt = 0) c976
                refine lv_aload_n hx hb dX12_certify_36 rfl (lv_at hl 2 rfl) ?_
                refine gM_12_69 hx hb ht hown hK hP m_1208 dX12_certify_37 ?_
                refine lv_iload_n hx hb dX12_certify_40 rfl (lv_at hl 0 rfl) ?_
                refine lM_12_69 hx hb hK hP (f := (fa 12 69)) rfl (vp_in_iff.mpr ⟨by omega, by omega⟩) dX12_certify_41 ?_
                refine lv_topi (fun v978 ev978 => ?_)
                refine lv_iload_n hx hb dX12_certify_42 rfl (lv_at hl 3 rfl) ?_
                refine lv_icmp_ne (tgt := 59) hx hb dX12_certify_43 (by decide) (fun c979 => ?_) (fun c979 => ?_)
                · have fc979 := z_ne (rfl : (v978).toInt = _) (rfl : (a).toInt = _) c979
                  refine lv_iconst (v := 0) hx hb dX12_certify_59 (by decide) ?_
                  refine lv_istore_n (lv' := [(2, .int 0), (3, .int x935_3), (0, .ref h), (1, .int a)]) hx hb dX12_certify_60 rfl hl (by decide) rfl (fun ls hl => ?_)
                  obtain ⟨v980, ev980⟩ : ∃ y : Int32, y = x935_3 + 1 := ⟨_, rfl⟩
                  have tv980 := z_add ev980 rfl (by decide : (1 : Int32).toInt = 1) (by omega) (by omega)
                  refine lv_iinc (v := v980) (lv' := [(3, .int v980), (2, .int 0), (0, .ref h), (1, .int a)]) hx hb dX12_certify_61 hl (k := 1) rfl (by rw [ev980]; rfl) (by decide) rfl (fun ls hl => ?_)
                  refine lv_goto (tgt := 15) hx hb dX12_certify_64 (by decide) ?_
                  have : (0 : Int32).toInt = 0 := (by decide)
                  exact ih936 v980 0 ⟨by omega, by omega⟩ ⟨by decide, by decide⟩ (show (((0 : Int32).toInt = 1 ∧ ∃ p : Nat, (p : Int) < (v980 : Int32).toInt ∧ (((fa 12 68) p).toInt = 0 ∧ ((fa 12 69) p).toInt = (a).toInt ∧ ((fa 12 73) p).toInt < 0)) ∨ ((0 : Int32).toInt = 0 ∧ ∀ p : Nat, (p : Int) < (v980 : Int32).toInt → ¬ (((fa 12 68) p).toInt = 0 ∧ ((fa 12 69) p).toInt = (a).toInt ∧ ((fa 12 73) p).toInt < 0))) from (by
                        have z9_68 := congrArg Int32.toInt (show v975 = fa 12 68 ((x935_3 : Int32).toInt).toNat from ev975)
                        have z9_69 := congrArg Int32.toInt (show v978 = fa 12 69 ((x935_3 : Int32).toInt).toNat from ev978)
                        rcases hq936_0 with ⟨q1, p, q2, q3⟩ | ⟨q1, q2⟩
                        · exfalso; omega
                        · refine Or.inr ⟨by omega, fun p hp => ?_⟩
                          by_cases hj : (p : Int) < (x935_3 : Int32).toInt
                          · exact q2 p hj
                          · have hj2 : p = ((x935_3 : Int32).toInt).toNat := by omega
                            rw [hj2]
                            show ¬ ((fa 12 68 ((x935_3 : Int32).toInt).toNat).toInt = 0 ∧ (fa 12 69 ((x935_3 : Int32).toInt).toNat).toInt = a.toInt ∧ (fa 12 73 ((x935_3 : Int32).toInt).toNat).toInt < 0)
                            omega)) (show (v980 : Int32).toInt ≤ ((iv 12 67) : Int32).toInt from by omega) (by omega) _ _ ls hP hD hS (lv_sub hl [0, 1, 2, 3] rfl)
                · have fc979 := z_eq (rfl : (v978).toInt = _) (rfl : (a).toInt = _) c979
                  refine lv_aload_n hx hb dX12_certify_46 rfl (lv_at hl 2 rfl) ?_
                  refine gM_12_73 hx hb ht hown hK hP m_1212 dX12_certify_47 ?_
                  refine lv_iload_n hx hb dX12_certify_50 rfl (lv_at hl 0 rfl) ?_
                  refine lM_12_73 hx hb hK hP (f := (fa 12 73)) rfl (vp_in_iff.mpr ⟨by omega, by omega⟩) dX12_certify_51 ?_
                  refine lv_topi (fun v981 ev981 => ?_)
                  refine lv_if_ge (tgt := 59) hx hb dX12_certify_52 (by decide) (fun c982 => ?_) (fun c982 => ?_)
                  · have fc982 := z_le (by decide : (0 : Int32).toInt = 0) (rfl : (v981).toInt = _) c982
                    refine lv_iconst (v := 0) hx hb dX12_certify_59 (by decide) ?_
                    refine lv_istore_n (lv' := [(2, .int 0), (3, .int x935_3), (0, .ref h), (1, .int a)]) hx hb dX12_certify_60 rfl hl (by decide) rfl (fun ls hl => ?_)
                    obtain ⟨v983, ev983⟩ : ∃ y : Int32, y = x935_3 + 1 := ⟨_, rfl⟩
                    have tv983 := z_add ev983 rfl (by decide : (1 : Int32).toInt = 1) (by omega) (by omega)
                    refine lv_iinc (v := v983) (lv' := [(3, .int v983), (2, .int 0), (0, .ref h), (1, .int a)]) hx hb dX12_certify_61 hl (k := 1) rfl (by rw [ev983]; rfl) (by decide) rfl (fun ls hl => ?_)
                    refine lv_goto (tgt := 15) hx hb dX12_certify_64 (by decide) ?_
                    have : (0 : Int32).toInt = 0 := (by decide)
                    exact ih936 v983 0 ⟨by omega, by omega⟩ ⟨by decide, by decide⟩ (show (((0 : Int32).toInt = 1 ∧ ∃ p : Nat, (p : Int) < (v983 : Int32).toInt ∧ (((fa 12 68) p).toInt = 0 ∧ ((fa 12 69) p).toInt = (a).toInt ∧ ((fa 12 73) p).toInt < 0)) ∨ ((0 : Int32).toInt = 0 ∧ ∀ p : Nat, (p : Int) < (v983 : Int32).toInt → ¬ (((fa 12 68) p).toInt = 0 ∧ ((fa 12 69) p).toInt = (a).toInt ∧ ((fa 12 73) p).toInt < 0))) from (by
                          have z9_68 := congrArg Int32.toInt (show v975 = fa 12 68 ((x935_3 : Int32).toInt).toNat from ev975)
                          have z9_69 := congrArg Int32.toInt (show v978 = fa 12 69 ((x935_3 : Int32).toInt).toNat from ev978)
                          have z9_73 := congrArg Int32.toInt (show v981 = fa 12 73 ((x935_3 : Int32).toInt).toNat from ev981)
                          rcases hq936_0 with ⟨q1, p, q2, q3⟩ | ⟨q1, q2⟩
                          · exfalso; omega
                          · refine Or.inr ⟨by omega, fun p hp => ?_⟩
                            by_cases hj : (p : Int) < (x935_3 : Int32).toInt
                            · exact q2 p hj
                            · have hj2 : p = ((x935_3 : Int32).toInt).toNat := by omega
                              rw [hj2]
                              show ¬ ((fa 12 68 ((x935_3 : Int32).toInt).toNat).toInt = 0 ∧ (fa 12 69 ((x935_3 : Int32).toInt).toNat).toInt = a.toInt ∧ (fa 12 73 ((x935_3 : Int32).toInt).toNat).toInt < 0)
                              omega)) (show (v983 : Int32).toInt ≤ ((iv 12 67) : Int32).toInt from by omega) (by omega) _ _ ls hP hD hS (lv_sub hl [0, 1, 2, 3] rfl)
                  · have fc982 := z_nle (by decide : (0 : Int32).toInt = 0) (rfl : (v981).toInt = _) c982
                    refine lv_iconst (v := 1) hx hb dX12_certify_55 (by decide) ?_
                    refine lv_goto (tgt := 60) hx hb dX12_certify_56 (by decide) ?_
                    refine lv_istore_n (lv' := [(2, .int 1), (3, .int x935_3), (0, .ref h), (1, .int a)]) hx hb dX12_certify_60 rfl hl (by decide) rfl (fun ls hl => ?_)
                    obtain ⟨v984, ev984⟩ : ∃ y : Int32, y = x935_3 + 1 := ⟨_, rfl⟩
                    have tv984 := z_add ev984 rfl (by decide : (1 : Int32).toInt = 1) (by omega) (by omega)
                    refine lv_iinc (v := v984) (lv' := [(3, .int v984), (2, .int 1), (0, .ref h), (1, .int a)]) hx hb dX12_certify_61 hl (k := 1) rfl (by rw [ev984]; rfl) (by decide) rfl (fun ls hl => ?_)
                    refine lv_goto (tgt := 15) hx hb dX12_certify_64 (by decide) ?_
                    have : (1 : Int32).toInt = 1 := (by decide)
                    exact ih936 v984 1 ⟨by omega, by omega⟩ ⟨by decide, by decide⟩ (show (((1 : Int32).toInt = 1 ∧ ∃ p : Nat, (p : Int) < (v984 : Int32).toInt ∧ (((fa 12 68) p).toInt = 0 ∧ ((fa 12 69) p).toInt = (a).toInt ∧ ((fa 12 73) p).toInt < 0)) ∨ ((1 : Int32).toInt = 0 ∧ ∀ p : Nat, (p : Int) < (v984 : Int32).toInt → ¬ (((fa 12 68) p).toInt = 0 ∧ ((fa 12 69) p).toInt = (a).toInt ∧ ((fa 12 73) p).toInt < 0))) from (by
                          have z9_68 := congrArg Int32.toInt (show v975 = fa 12 68 ((x935_3 : Int32).toInt).toNat from ev975)
                          have z9_69 := congrArg Int32.toInt (show v978 = fa 12 69 ((x935_3 : Int32).toInt).toNat from ev978)
                          have z9_73 := congrArg Int32.toInt (show v981 = fa 12 73 ((x935_3 : Int32).toInt).toNat from ev981)
                          rcases hq936_0 with ⟨q1, p, q2, q3⟩ | ⟨q1, q2⟩
                          · exact Or.inl ⟨by omega, p, by omega, q3⟩
                          · exact Or.inl ⟨by omega, ((x935_3 : Int32).toInt).toNat, by omega, (show (fa 12 68 ((x935_3 : Int32).toInt).toNat).toInt = 0 ∧ (fa 12 69 ((x935_3 : Int32).toInt).toNat).toInt = a.toInt ∧ (fa 12 73 ((x935_3 : Int32).toInt).toNat).toInt < 0 from by omega)⟩)) (show (v984 : Int32).toInt ≤ ((iv 12 67) : Int32).toInt from by omega) (by omega) _ _ ls hP hD hS (lv_sub hl [0, 1, 2, 3] rfl)
      have : (0 : Int32).toInt = 0 := (by decide)
      have i_12_67 : 0 ≤ (iv 12 67).toInt ∧ (iv 12 67).toInt ≤ 40 := hI.1 12 67
      exact lp936 41 0 0 ⟨by decide, by decide⟩ ⟨by decide, by decide⟩ (show (((0 : Int32).toInt = 1 ∧ ∃ p : Nat, (p : Int) < (0 : Int32).toInt ∧ (((fa 12 68) p).toInt = 0 ∧ ((fa 12 69) p).toInt = (a).toInt ∧ ((fa 12 73) p).toInt < 0)) ∨ ((0 : Int32).toInt = 0 ∧ ∀ p : Nat, (p : Int) < (0 : Int32).toInt → ¬ (((fa 12 68) p).toInt = 0 ∧ ((fa 12 69) p).toInt = (a).toInt ∧ ((fa 12 73) p).toInt < 0))) from (Or.inr ⟨by decide, fun p hp => absurd hp (by omega)⟩)) (show (0 : Int32).toInt ≤ ((iv 12 67) : Int32).toInt from by omega) (by first | decide | omega) _ _ ls hP hD hS (lv_sub hl [0, 1, 2, 3] rfl)
    · exact absurd rfl c3
/-! ===== pb1 ===== -/
set_option maxHeartbeats 4000000 in
set_option maxRecDepth 100000 in
/-- X6_hanging -/
theorem c_X6_hanging_w (l : Launch) (dC : Nat → ClassId) (dI : Nat → Nat → Nat) (h : Nat) (g : Nat → Nat → Nat) (ca : Nat → Nat → ClassId) (iv : Nat → Nat → Int32) (lv : Nat → Nat → Int64) (fa : Nat → Nat → Nat → Int32) (la : Nat → Nat → Nat → Int64) (hI : IX iv fa) (a : Int32) : Met l yX6_hanging (wc yX6_hanging cX6_hanging 4 (some .int)) ({ frames := 0, cells := 0, slots := 0, locals := 0 } : Room) (pR (dC, dI) classes (WX h g ca iv lv fa la) (TX ca) [.ref (g 11 9), .int a]) (vp_Si (fun r => (True) ∧ (r.toInt = (smC (fun q : Nat => ((fa 6 3) q).toInt = a.toInt) ((iv 6 7).toInt).toNat).toInt))) 0 0 (fun _ => False) := by
  refine Met.ofW (cc := cX6_hanging) (maxL := 4) (ret := (some .int)) (by decide) rfl ?_
  intro p e s m args below meth c s₁ B hml hv
  obtain ⟨rfl, hP, hK⟩ := hv
  have hx := B.exec
  have hb := B.bytes
  have hr := B.returns
  have ht := tb_tl (atoms_spec (ws := wc yX6_hanging cX6_hanging 4 (some .int)) B.pre)
  have hown : s.vm.findClass RX6 = some m.cls := findClass_of_methodNamed B.named
  have hlocks := B.notSynchronized
  have hl := lv_entry [.ref (g 11 9), .int a] (n := 4) (Nat.le_of_ble_eq_true rfl)
  rw [lg_entry_eq]
  generalize (lg_sl [.ref (g 11 9), .int a] ++ List.replicate (4 - (lg_sl [.ref (g 11 9), .int a]).length) Slot.unset).toArray = ls at hl ⊢
  have hl : lv_has ls 4 [(0, .ref (g 11 9)), (1, .int a)] := hl
  refine lv_iconst (v := 0) hx hb dX6_hanging_0 (by decide) ?_
  refine lv_istore_n (lv' := [(2, .int 0), (0, .ref (g 11 9)), (1, .int a)]) hx hb dX6_hanging_1 rfl hl (by decide) rfl (fun ls hl => ?_)
  refine lv_iconst (v := 0) hx hb dX6_hanging_2 (by decide) ?_
  refine lv_istore_n (lv' := [(3, .int 0), (2, .int 0), (0, .ref (g 11 9)), (1, .int a)]) hx hb dX6_hanging_3 rfl hl (by decide) rfl (fun ls hl => ?_)
  have i_6_7 : 0 ≤ (iv 6 7).toInt ∧ (iv 6 7).toInt ≤ 40 := hI.1 6 7
  have lp366 : ∀ (nn366 : Nat) (x365_3 : Int32) (x365_2 : Int32), 0 ≤ x365_3.toInt ∧ x365_3.toInt ≤ 40 → ((x365_2 : Int32).toInt = (smC (fun q : Nat => ((fa 6 3) q).toInt = (a).toInt) ((x365_3 : Int32).toInt).toNat).toInt) → (x365_3 : Int32).toInt ≤ ((iv 6 7) : Int32).toInt → 40 - x365_3.toInt < (nn366 : Int) → ∀ (ls : Array Slot), lv_has ls 4 [(3, .int x365_3), (2, .int x365_2), (0, .ref (g 11 9)), (1, .int a)] → W p l e ({ frames := 0, cells := 0, slots := 0, locals := 0 } : Room) s m ([.ref (g 11 9), .int a] : List Value).toArray below meth c s.heap [] 0 0 (MQ below (vp_Si (fun r => (True) ∧ (r.toInt = (smC (fun q : Nat => ((fa 6 3) q).toInt = a.toInt) ((iv 6 7).toInt).toNat).toInt))) ([.ref (g 11 9), .int a] : List Value).toArray s 0 0 (fun _ => False)) (F0 m 4 ls []) := by
    intro nn366
    induction nn366 with
    | zero => intro x365_3 x365_2 hx365_3 hq366_0 hq366_1 hm366; exfalso; omega
    | succ nn366 ih366 =>
      intro x365_3 x365_2 hx365_3 hq366_0 hq366_1 hm366 ls hl
      refine lv_iload_n hx hb dX6_hanging_4 rfl (lv_at hl 0 rfl) ?_
      refine lv_aload_n hx hb dX6_hanging_5 rfl (lv_at hl 2 rfl) ?_
      refine gX_6_7 hx hb ht hown hK hP m_396 (v := (iv 6 7)) rfl dX6_hanging_6 ?_
      refine lv_icmp_ge (tgt := 31) hx hb dX6_hanging_9 (by decide) (fun c367 => ?_) (fun c367 => ?_)
      · have fc367 := z_le (rfl : ((iv 6 7)).toInt = _) (rfl : (x365_3).toInt = _) c367
        refine lv_iload_n hx hb dX6_hanging_31 rfl (lv_at hl 1 rfl) ?_
        exact W.iret (v := x365_2) hx hb hr (fun t ht9 hW => ⟨x365_2, rfl, ⟨trivial, (show (x365_2 : Int32).toInt = (smC (fun q : Nat => ((fa 6 3) q).toInt = (a).toInt) (((iv 6 7) : Int32).toInt).toNat).toInt from (by have hq9 := hq366_0; have he9 : (x365_3 : Int32).toInt = (iv 6 7).toInt := (by omega); rw [he9] at hq9; exact hq9))⟩, ht9⟩) (fun q hq => by cases hq) dX6_hanging_32
      · have fc367 := z_nle (rfl : ((iv 6 7)).toInt = _) (rfl : (x365_3).toInt = _) c367
        refine lv_aload_n hx hb dX6_hanging_12 rfl (lv_at hl 2 rfl) ?_
        refine gX_6_3 hx hb ht hown hK hP m_389 dX6_hanging_13 ?_
        refine lv_iload_n hx hb dX6_hanging_16 rfl (lv_at hl 0 rfl) ?_
        refine lX_6_3 hx hb hK hP (f := (fa 6 3)) rfl (vp_in_iff.mpr ⟨by omega, by omega⟩) dX6_hanging_17 ?_
        refine lv_topi (fun v368 ev368 => ?_)
        have tv368 : (-1) ≤ v368.toInt ∧ v368.toInt ≤ 39 := by rw [ev368]; exact hI.2 6 3 _
        refine lv_iload_n hx hb dX6_hanging_18 rfl (lv_at hl 3 rfl) ?_
        refine lv_icmp_ne (tgt := 25) hx hb dX6_hanging_19 (by decide) (fun c369 => ?_) (fun c369 => ?_)
        · have fc369 := z_ne (rfl : (v368).toInt = _) (rfl : (a).toInt = _) c369
          obtain ⟨v370, ev370⟩ : ∃ y : Int32, y = x365_3 + 1 := ⟨_, rfl⟩
          have tv370 := z_add ev370 rfl (by decide : (1 : Int32).toInt = 1) (by omega) (by omega)
          refine lv_iinc (v := v370) (lv' := [(3, .int v370), (2, .int x365_2), (0, .ref (g 11 9)), (1, .int a)]) hx hb dX6_hanging_25 hl (k := 0) rfl (by rw [ev370]; rfl) (by decide) rfl (fun ls hl => ?_)
          refine lv_goto (tgt := 4) hx hb dX6_hanging_28 (by decide) ?_
          exact ih366 v370 x365_2 ⟨by omega, by omega⟩ (show (x365_2 : Int32).toInt = (smC (fun q : Nat => ((fa 6 3) q).toInt = (a).toInt) ((v370 : Int32).toInt).toNat).toInt from (by
                have hv9 := congrArg Int32.toInt (show v368 = fa 6 3 ((x365_3 : Int32).toInt).toNat from ev368)
                have hs9 : ((v370 : Int32).toInt).toNat = ((x365_3 : Int32).toInt).toNat + 1 := by omega
                rw [smC_n hs9 (show ¬ (fa 6 3 ((x365_3 : Int32).toInt).toNat).toInt = a.toInt from by omega)]; exact hq366_0)) (show (v370 : Int32).toInt ≤ ((iv 6 7) : Int32).toInt from by omega) (by omega) ls (lv_sub hl [0, 1, 2, 3] rfl)
        · have fc369 := z_eq (rfl : (v368).toInt = _) (rfl : (a).toInt = _) c369
          obtain ⟨v371, ev371⟩ : ∃ y : Int32, y = x365_2 + 1 := ⟨_, rfl⟩
          refine lv_iinc (v := v371) (lv' := [(2, .int v371), (3, .int x365_3), (0, .ref (g 11 9)), (1, .int a)]) hx hb dX6_hanging_22 hl (k := 1) rfl (by rw [ev371]; rfl) (by decide) rfl (fun ls hl => ?_)
          obtain ⟨v372, ev372⟩ : ∃ y : Int32, y = x365_3 + 1 := ⟨_, rfl⟩
          have tv372 := z_add ev372 rfl (by decide : (1 : Int32).toInt = 1) (by omega) (by omega)
          refine lv_iinc (v := v372) (lv' := [(3, .int v372), (2, .int v371), (0, .ref (g 11 9)), (1, .int a)]) hx hb dX6_hanging_25 hl (k := 1) rfl (by rw [ev372]; rfl) (by decide) rfl (fun ls hl => ?_)
          refine lv_goto (tgt := 4) hx hb dX6_hanging_28 (by decide) ?_
          exact ih366 v372 v371 ⟨by omega, by omega⟩ (show (v371 : Int32).toInt = (smC (fun q : Nat => ((fa 6 3) q).toInt = (a).toInt) ((v372 : Int32).toInt).toNat).toInt from (by
                have hv9 := congrArg Int32.toInt (show v368 = fa 6 3 ((x365_3 : Int32).toInt).toNat from ev368)
                have hs9 : ((v372 : Int32).toInt).toNat = ((x365_3 : Int32).toInt).toNat + 1 := by omega
                have h1 : x365_2 = smC _ _ := Int32.toInt_inj.mp hq366_0
                rw [smC_y hs9 (show (fa 6 3 ((x365_3 : Int32).toInt).toNat).toInt = a.toInt from by omega), ← h1, ev371])) (show (v372 : Int32).toInt ≤ ((iv 6 7) : Int32).toInt from by omega) (by omega) ls (lv_sub hl [0, 1, 2, 3] rfl)
  have : (0 : Int32).toInt = 0 := (by decide)
  have i_6_7 : 0 ≤ (iv 6 7).toInt ∧ (iv 6 7).toInt ≤ 40 := hI.1 6 7
  exact lp366 41 0 0 ⟨by decide, by decide⟩ (show (0 : Int32).toInt = (smC (fun q : Nat => ((fa 6 3) q).toInt = (a).toInt) ((0 : Int32).toInt).toNat).toInt from (by have hz : ((0 : Int32).toInt).toNat = 0 := (by decide); rw [hz]; exact (by decide : (0 : Int32).toInt = 0))) (show (0 : Int32).toInt ≤ ((iv 6 7) : Int32).toInt from by omega) (by first | decide | omega) ls (lv_sub hl [0, 1, 2, 3] rfl)
set_option maxHeartbeats 4000000 in
set_option maxRecDepth 100000 in
/-- X11_paper -/
theorem c_X11_paper_w (l : Launch) (dC : Nat → ClassId) (dI : Nat → Nat → Nat) (h : Nat) (g : Nat → Nat → Nat) (ca : Nat → Nat → ClassId) (iv : Nat → Nat → Int32) (lv : Nat → Nat → Int64) (fa : Nat → Nat → Nat → Int32) (la : Nat → Nat → Nat → Int64) (hI : IX iv fa) (a : Int32) (b : Int32) : Met l yX11_paper (wc yX11_paper cX11_paper 3 (some .int)) ({ frames := 1, cells := 0, slots := 0, locals := 23 } : Room) (pR (dC, dI) classes (WX h g ca iv lv fa la) (TX ca) [.ref h, .int a, .int b]) (vp_Si (fun r => (True) ∧ (((r.toInt = -100001 ∧ ¬ (0 ≤ a.toInt ∧ a.toInt < (iv 6 7).toInt)) ∨ ((0 ≤ a.toInt ∧ a.toInt < (iv 6 7).toInt) ∧ ((b.toInt = 0 ∧ r.toInt = ((fa 6 0) (a.toInt).toNat).toInt) ∨ (b.toInt = 1 ∧ r.toInt = ((fa 6 1) (a.toInt).toNat).toInt) ∨ (b.toInt = 2 ∧ r.toInt = ((fa 6 2) (a.toInt).toNat).toInt) ∨ (b.toInt = 3 ∧ r.toInt = ((fa 6 3) (a.toInt).toNat).toInt) ∨ (b.toInt = 4 ∧ r.toInt = ((fa 6 4) (a.toInt).toNat).toInt) ∨ (b.toInt = 5 ∧ r.toInt = ((fa 6 5) (a.toInt).toNat).toInt) ∨ (b.toInt = 6 ∧ r.toInt = (smC (fun q : Nat => ((fa 6 3) q).toInt = a.toInt) ((iv 6 7).toInt).toNat).toInt) ∨ (¬ (0 ≤ b.toInt ∧ b.toInt ≤ 6) ∧ r.toInt = -100002))))))) 0 0 (fun _ => False) := by
  refine Met.ofW (cc := cX11_paper) (maxL := 3) (ret := (some .int)) (by decide) rfl ?_
  intro p e s m args below meth c s₁ B hml hv
  obtain ⟨rfl, hP, hK⟩ := hv
  have hx := B.exec
  have hb := B.bytes
  have hr := B.returns
  have ht := tb_tl (atoms_spec (ws := wc yX11_paper cX11_paper 3 (some .int)) B.pre)
  have hown : s.vm.findClass RX11 = some m.cls := findClass_of_methodNamed B.named
  have hlocks := B.notSynchronized
  have hl := lv_entry [.ref h, .int a, .int b] (n := 3) (Nat.le_of_ble_eq_true rfl)
  rw [lg_entry_eq]
  generalize (lg_sl [.ref h, .int a, .int b] ++ List.replicate (3 - (lg_sl [.ref h, .int a, .int b]).length) Slot.unset).toArray = ls at hl ⊢
  have hl : lv_has ls 3 [(0, .ref h), (1, .int a), (2, .int b)] := hl
  refine lv_aload_n hx hb dX11_paper_0 rfl (lv_at hl 0 rfl) ?_
  refine gX_11_9 hx hb ht hown hK hP m_424 dX11_paper_1 ?_
  refine lv_iload_n hx hb dX11_paper_4 rfl (lv_at hl 1 rfl) ?_
  refine vp_callSi (W.runV (As := [.int a]) (rest := []) ⟨hx, hb, hml, hown, ht⟩ (c_X6_has l dC dI h g ca iv lv fa la hI a) (kV 1 ht m_1095 m_1096 m_1097 m_88 m_1098 rfl rfl hd_X6_has_v ⟨Nat.le_of_ble_eq_true rfl, Nat.le_of_ble_eq_true rfl⟩) (vR hP hK (rX_6 hK hP)) rfl rfl hl.1 rfl (lv_room (Nat.le_of_ble_eq_true rfl)) dX11_paper_5 ⟨Nat.le_of_ble_eq_true rfl, Nat.le_of_ble_eq_true rfl⟩) (fun r1 hr1 => ?_)
  rcases hr1 with ⟨rfl, fr1⟩ | ⟨rfl, fr1⟩
  · skip
    have i_6_7 : 0 ≤ (iv 6 7).toInt ∧ (iv 6 7).toInt ≤ 40 := hI.1 6 7
    have fr1 : (0 ≤ (a : Int32).toInt ∧ (a : Int32).toInt < ((iv 6 7) : Int32).toInt) := fr1
    refine lv_if_ne (tgt := 14) hx hb dX11_paper_8 (by decide) (fun c2 => ?_) (fun c2 => ?_)
    · skip
      refine lv_iload_n hx hb dX11_paper_14 rfl (lv_at hl 2 rfl) ?_
      rcases sw_0_6 b with h3 | rfl | rfl | rfl | rfl | rfl | rfl | rfl
      · refine lv_tableOut (tgt := 125) hx hb dX11_paper_15 h3 (by decide) ?_
        refine lv_ldc hx hb hown (ht _ m_456) dX11_paper_125 ?_
        have : ((-100002) : Int32).toInt = (-100002) := (by decide)
        exact W.iret (v := (-100002)) hx hb hr (fun t ht9 hW => ⟨(-100002), rfl, ⟨trivial, (show ((((-100002) : Int32).toInt = -100001 ∧ ¬ (0 ≤ (a).toInt ∧ (a).toInt < (iv 6 7).toInt)) ∨ ((0 ≤ (a).toInt ∧ (a).toInt < (iv 6 7).toInt) ∧ (((b).toInt = 0 ∧ ((-100002) : Int32).toInt = ((fa 6 0) ((a).toInt).toNat).toInt) ∨ ((b).toInt = 1 ∧ ((-100002) : Int32).toInt = ((fa 6 1) ((a).toInt).toNat).toInt) ∨ ((b).toInt = 2 ∧ ((-100002) : Int32).toInt = ((fa 6 2) ((a).toInt).toNat).toInt) ∨ ((b).toInt = 3 ∧ ((-100002) : Int32).toInt = ((fa 6 3) ((a).toInt).toNat).toInt) ∨ ((b).toInt = 4 ∧ ((-100002) : Int32).toInt = ((fa 6 4) ((a).toInt).toNat).toInt) ∨ ((b).toInt = 5 ∧ ((-100002) : Int32).toInt = ((fa 6 5) ((a).toInt).toNat).toInt) ∨ ((b).toInt = 6 ∧ ((-100002) : Int32).toInt = (smC (fun q : Nat => ((fa 6 3) q).toInt = (a).toInt) ((iv 6 7).toInt).toNat).toInt) ∨ (¬ (0 ≤ (b).toInt ∧ (b).toInt ≤ 6) ∧ ((-100002) : Int32).toInt = -100002)))) from Or.inr ⟨⟨by omega, by omega⟩, Or.inr (Or.inr (Or.inr (Or.inr (Or.inr (Or.inr (Or.inr (⟨by omega, by omega⟩)))))))⟩)⟩, ht9⟩) (fun q hq => by cases hq) dX11_paper_127
      · refine lv_tableIn (tgt := 56) (off := 41) hx hb dX11_paper_15 (by decide) (by decide) rfl (by decide) ?_
        refine lv_aload_n hx hb dX11_paper_56 rfl (lv_at hl 0 rfl) ?_
        refine gX_11_9 hx hb ht hown hK hP m_424 dX11_paper_57 ?_
        refine gX_6_0 hx hb ht hown hK hP m_384 dX11_paper_60 ?_
        refine lv_iload_n hx hb dX11_paper_63 rfl (lv_at hl 1 rfl) ?_
        refine lX_6_0 hx hb hK hP (f := (fa 6 0)) rfl (vp_in_iff.mpr ⟨by omega, by omega⟩) dX11_paper_64 ?_
        refine lv_topi (fun v4 ev4 => ?_)
        have : (0 : Int32).toInt = 0 := (by decide)
        exact W.iret (v := v4) hx hb hr (fun t ht9 hW => ⟨v4, rfl, ⟨trivial, (show (((v4 : Int32).toInt = -100001 ∧ ¬ (0 ≤ (a).toInt ∧ (a).toInt < (iv 6 7).toInt)) ∨ ((0 ≤ (a).toInt ∧ (a).toInt < (iv 6 7).toInt) ∧ (((0 : Int32).toInt = 0 ∧ (v4 : Int32).toInt = ((fa 6 0) ((a).toInt).toNat).toInt) ∨ ((0 : Int32).toInt = 1 ∧ (v4 : Int32).toInt = ((fa 6 1) ((a).toInt).toNat).toInt) ∨ ((0 : Int32).toInt = 2 ∧ (v4 : Int32).toInt = ((fa 6 2) ((a).toInt).toNat).toInt) ∨ ((0 : Int32).toInt = 3 ∧ (v4 : Int32).toInt = ((fa 6 3) ((a).toInt).toNat).toInt) ∨ ((0 : Int32).toInt = 4 ∧ (v4 : Int32).toInt = ((fa 6 4) ((a).toInt).toNat).toInt) ∨ ((0 : Int32).toInt = 5 ∧ (v4 : Int32).toInt = ((fa 6 5) ((a).toInt).toNat).toInt) ∨ ((0 : Int32).toInt = 6 ∧ (v4 : Int32).toInt = (smC (fun q : Nat => ((fa 6 3) q).toInt = (a).toInt) ((iv 6 7).toInt).toNat).toInt) ∨ (¬ (0 ≤ (0 : Int32).toInt ∧ (0 : Int32).toInt ≤ 6) ∧ (v4 : Int32).toInt = -100002)))) from (by have hv9 := congrArg Int32.toInt (show v4 = fa 6 0 (a.toInt).toNat from ev4); exact Or.inr ⟨⟨by omega, by omega⟩, Or.inl (⟨by omega, by omega⟩)⟩))⟩, ht9⟩) (fun q hq => by cases hq) dX11_paper_65
      · refine lv_tableIn (tgt := 66) (off := 51) hx hb dX11_paper_15 (by decide) (by decide) rfl (by decide) ?_
        refine lv_aload_n hx hb dX11_paper_66 rfl (lv_at hl 0 rfl) ?_
        refine gX_11_9 hx hb ht hown hK hP m_424 dX11_paper_67 ?_
        refine gX_6_1 hx hb ht hown hK hP m_386 dX11_paper_70 ?_
        refine lv_iload_n hx hb dX11_paper_73 rfl (lv_at hl 1 rfl) ?_
        refine lX_6_1 hx hb hK hP (f := (fa 6 1)) rfl (vp_in_iff.mpr ⟨by omega, by omega⟩) dX11_paper_74 ?_
        refine lv_topi (fun v5 ev5 => ?_)
        have : (1 : Int32).toInt = 1 := (by decide)
        exact W.iret (v := v5) hx hb hr (fun t ht9 hW => ⟨v5, rfl, ⟨trivial, (show (((v5 : Int32).toInt = -100001 ∧ ¬ (0 ≤ (a).toInt ∧ (a).toInt < (iv 6 7).toInt)) ∨ ((0 ≤ (a).toInt ∧ (a).toInt < (iv 6 7).toInt) ∧ (((1 : Int32).toInt = 0 ∧ (v5 : Int32).toInt = ((fa 6 0) ((a).toInt).toNat).toInt) ∨ ((1 : Int32).toInt = 1 ∧ (v5 : Int32).toInt = ((fa 6 1) ((a).toInt).toNat).toInt) ∨ ((1 : Int32).toInt = 2 ∧ (v5 : Int32).toInt = ((fa 6 2) ((a).toInt).toNat).toInt) ∨ ((1 : Int32).toInt = 3 ∧ (v5 : Int32).toInt = ((fa 6 3) ((a).toInt).toNat).toInt) ∨ ((1 : Int32).toInt = 4 ∧ (v5 : Int32).toInt = ((fa 6 4) ((a).toInt).toNat).toInt) ∨ ((1 : Int32).toInt = 5 ∧ (v5 : Int32).toInt = ((fa 6 5) ((a).toInt).toNat).toInt) ∨ ((1 : Int32).toInt = 6 ∧ (v5 : Int32).toInt = (smC (fun q : Nat => ((fa 6 3) q).toInt = (a).toInt) ((iv 6 7).toInt).toNat).toInt) ∨ (¬ (0 ≤ (1 : Int32).toInt ∧ (1 : Int32).toInt ≤ 6) ∧ (v5 : Int32).toInt = -100002)))) from (by have hv9 := congrArg Int32.toInt (show v5 = fa 6 1 (a.toInt).toNat from ev5); exact Or.inr ⟨⟨by omega, by omega⟩, Or.inr (Or.inl (⟨by omega, by omega⟩))⟩))⟩, ht9⟩) (fun q hq => by cases hq) dX11_paper_75
      · refine lv_tableIn (tgt := 76) (off := 61) hx hb dX11_paper_15 (by decide) (by decide) rfl (by decide) ?_
        refine lv_aload_n hx hb dX11_paper_76 rfl (lv_at hl 0 rfl) ?_
        refine gX_11_9 hx hb ht hown hK hP m_424 dX11_paper_77 ?_
        refine gX_6_2 hx hb ht hown hK hP m_388 dX11_paper_80 ?_
        refine lv_iload_n hx hb dX11_paper_83 rfl (lv_at hl 1 rfl) ?_
        refine lX_6_2 hx hb hK hP (f := (fa 6 2)) rfl (vp_in_iff.mpr ⟨by omega, by omega⟩) dX11_paper_84 ?_
        refine lv_topi (fun v6 ev6 => ?_)
        have : (2 : Int32).toInt = 2 := (by decide)
        exact W.iret (v := v6) hx hb hr (fun t ht9 hW => ⟨v6, rfl, ⟨trivial, (show (((v6 : Int32).toInt = -100001 ∧ ¬ (0 ≤ (a).toInt ∧ (a).toInt < (iv 6 7).toInt)) ∨ ((0 ≤ (a).toInt ∧ (a).toInt < (iv 6 7).toInt) ∧ (((2 : Int32).toInt = 0 ∧ (v6 : Int32).toInt = ((fa 6 0) ((a).toInt).toNat).toInt) ∨ ((2 : Int32).toInt = 1 ∧ (v6 : Int32).toInt = ((fa 6 1) ((a).toInt).toNat).toInt) ∨ ((2 : Int32).toInt = 2 ∧ (v6 : Int32).toInt = ((fa 6 2) ((a).toInt).toNat).toInt) ∨ ((2 : Int32).toInt = 3 ∧ (v6 : Int32).toInt = ((fa 6 3) ((a).toInt).toNat).toInt) ∨ ((2 : Int32).toInt = 4 ∧ (v6 : Int32).toInt = ((fa 6 4) ((a).toInt).toNat).toInt) ∨ ((2 : Int32).toInt = 5 ∧ (v6 : Int32).toInt = ((fa 6 5) ((a).toInt).toNat).toInt) ∨ ((2 : Int32).toInt = 6 ∧ (v6 : Int32).toInt = (smC (fun q : Nat => ((fa 6 3) q).toInt = (a).toInt) ((iv 6 7).toInt).toNat).toInt) ∨ (¬ (0 ≤ (2 : Int32).toInt ∧ (2 : Int32).toInt ≤ 6) ∧ (v6 : Int32).toInt = -100002)))) from (by have hv9 := congrArg Int32.toInt (show v6 = fa 6 2 (a.toInt).toNat from ev6); exact Or.inr ⟨⟨by omega, by omega⟩, Or.inr (Or.inr (Or.inl (⟨by omega, by omega⟩)))⟩))⟩, ht9⟩) (fun q hq => by cases hq) dX11_paper_85
      · refine lv_tableIn (tgt := 86) (off := 71) hx hb dX11_paper_15 (by decide) (by decide) rfl (by decide) ?_
        refine lv_aload_n hx hb dX11_paper_86 rfl (lv_at hl 0 rfl) ?_
        refine gX_11_9 hx hb ht hown hK hP m_424 dX11_paper_87 ?_
        refine gX_6_3 hx hb ht hown hK hP m_390 dX11_paper_90 ?_
        refine lv_iload_n hx hb dX11_paper_93 rfl (lv_at hl 1 rfl) ?_
        refine lX_6_3 hx hb hK hP (f := (fa 6 3)) rfl (vp_in_iff.mpr ⟨by omega, by omega⟩) dX11_paper_94 ?_
        refine lv_topi (fun v7 ev7 => ?_)
        have tv7 : (-1) ≤ v7.toInt ∧ v7.toInt ≤ 39 := by rw [ev7]; exact hI.2 6 3 _
        have : (3 : Int32).toInt = 3 := (by decide)
        exact W.iret (v := v7) hx hb hr (fun t ht9 hW => ⟨v7, rfl, ⟨trivial, (show (((v7 : Int32).toInt = -100001 ∧ ¬ (0 ≤ (a).toInt ∧ (a).toInt < (iv 6 7).toInt)) ∨ ((0 ≤ (a).toInt ∧ (a).toInt < (iv 6 7).toInt) ∧ (((3 : Int32).toInt = 0 ∧ (v7 : Int32).toInt = ((fa 6 0) ((a).toInt).toNat).toInt) ∨ ((3 : Int32).toInt = 1 ∧ (v7 : Int32).toInt = ((fa 6 1) ((a).toInt).toNat).toInt) ∨ ((3 : Int32).toInt = 2 ∧ (v7 : Int32).toInt = ((fa 6 2) ((a).toInt).toNat).toInt) ∨ ((3 : Int32).toInt = 3 ∧ (v7 : Int32).toInt = ((fa 6 3) ((a).toInt).toNat).toInt) ∨ ((3 : Int32).toInt = 4 ∧ (v7 : Int32).toInt = ((fa 6 4) ((a).toInt).toNat).toInt) ∨ ((3 : Int32).toInt = 5 ∧ (v7 : Int32).toInt = ((fa 6 5) ((a).toInt).toNat).toInt) ∨ ((3 : Int32).toInt = 6 ∧ (v7 : Int32).toInt = (smC (fun q : Nat => ((fa 6 3) q).toInt = (a).toInt) ((iv 6 7).toInt).toNat).toInt) ∨ (¬ (0 ≤ (3 : Int32).toInt ∧ (3 : Int32).toInt ≤ 6) ∧ (v7 : Int32).toInt = -100002)))) from (by have hv9 := congrArg Int32.toInt (show v7 = fa 6 3 (a.toInt).toNat from ev7); exact Or.inr ⟨⟨by omega, by omega⟩, Or.inr (Or.inr (Or.inr (Or.inl (⟨by omega, by omega⟩))))⟩))⟩, ht9⟩) (fun q hq => by cases hq) dX11_paper_95
      · refine lv_tableIn (tgt := 96) (off := 81) hx hb dX11_paper_15 (by decide) (by decide) rfl (by decide) ?_
        refine lv_aload_n hx hb dX11_paper_96 rfl (lv_at hl 0 rfl) ?_
        refine gX_11_9 hx hb ht hown hK hP m_424 dX11_paper_97 ?_
        refine gX_6_4 hx hb ht hown hK hP m_392 dX11_paper_100 ?_
        refine lv_iload_n hx hb dX11_paper_103 rfl (lv_at hl 1 rfl) ?_
        refine lX_6_4 hx hb hK hP (f := (fa 6 4)) rfl (vp_in_iff.mpr ⟨by omega, by omega⟩) dX11_paper_104 ?_
        refine lv_topi (fun v8 ev8 => ?_)
        have : (4 : Int32).toInt = 4 := (by decide)
        exact W.iret (v := v8) hx hb hr (fun t ht9 hW => ⟨v8, rfl, ⟨trivial, (show (((v8 : Int32).toInt = -100001 ∧ ¬ (0 ≤ (a).toInt ∧ (a).toInt < (iv 6 7).toInt)) ∨ ((0 ≤ (a).toInt ∧ (a).toInt < (iv 6 7).toInt) ∧ (((4 : Int32).toInt = 0 ∧ (v8 : Int32).toInt = ((fa 6 0) ((a).toInt).toNat).toInt) ∨ ((4 : Int32).toInt = 1 ∧ (v8 : Int32).toInt = ((fa 6 1) ((a).toInt).toNat).toInt) ∨ ((4 : Int32).toInt = 2 ∧ (v8 : Int32).toInt = ((fa 6 2) ((a).toInt).toNat).toInt) ∨ ((4 : Int32).toInt = 3 ∧ (v8 : Int32).toInt = ((fa 6 3) ((a).toInt).toNat).toInt) ∨ ((4 : Int32).toInt = 4 ∧ (v8 : Int32).toInt = ((fa 6 4) ((a).toInt).toNat).toInt) ∨ ((4 : Int32).toInt = 5 ∧ (v8 : Int32).toInt = ((fa 6 5) ((a).toInt).toNat).toInt) ∨ ((4 : Int32).toInt = 6 ∧ (v8 : Int32).toInt = (smC (fun q : Nat => ((fa 6 3) q).toInt = (a).toInt) ((iv 6 7).toInt).toNat).toInt) ∨ (¬ (0 ≤ (4 : Int32).toInt ∧ (4 : Int32).toInt ≤ 6) ∧ (v8 : Int32).toInt = -100002)))) from (by have hv9 := congrArg Int32.toInt (show v8 = fa 6 4 (a.toInt).toNat from ev8); exact Or.inr ⟨⟨by omega, by omega⟩, Or.inr (Or.inr (Or.inr (Or.inr (Or.inl (⟨by omega, by omega⟩)))))⟩))⟩, ht9⟩) (fun q hq => by cases hq) dX11_paper_105
      · refine lv_tableIn (tgt := 106) (off := 91) hx hb dX11_paper_15 (by decide) (by decide) rfl (by decide) ?_
        refine lv_aload_n hx hb dX11_paper_106 rfl (lv_at hl 0 rfl) ?_
        refine gX_11_9 hx hb ht hown hK hP m_424 dX11_paper_107 ?_
        refine gX_6_5 hx hb ht hown hK hP m_394 dX11_paper_110 ?_
        refine lv_iload_n hx hb dX11_paper_113 rfl (lv_at hl 1 rfl) ?_
        refine lX_6_5 hx hb hK hP (f := (fa 6 5)) rfl (vp_in_iff.mpr ⟨by omega, by omega⟩) dX11_paper_114 ?_
        refine lv_topi (fun v9 ev9 => ?_)
        have : (5 : Int32).toInt = 5 := (by decide)
        exact W.iret (v := v9) hx hb hr (fun t ht9 hW => ⟨v9, rfl, ⟨trivial, (show (((v9 : Int32).toInt = -100001 ∧ ¬ (0 ≤ (a).toInt ∧ (a).toInt < (iv 6 7).toInt)) ∨ ((0 ≤ (a).toInt ∧ (a).toInt < (iv 6 7).toInt) ∧ (((5 : Int32).toInt = 0 ∧ (v9 : Int32).toInt = ((fa 6 0) ((a).toInt).toNat).toInt) ∨ ((5 : Int32).toInt = 1 ∧ (v9 : Int32).toInt = ((fa 6 1) ((a).toInt).toNat).toInt) ∨ ((5 : Int32).toInt = 2 ∧ (v9 : Int32).toInt = ((fa 6 2) ((a).toInt).toNat).toInt) ∨ ((5 : Int32).toInt = 3 ∧ (v9 : Int32).toInt = ((fa 6 3) ((a).toInt).toNat).toInt) ∨ ((5 : Int32).toInt = 4 ∧ (v9 : Int32).toInt = ((fa 6 4) ((a).toInt).toNat).toInt) ∨ ((5 : Int32).toInt = 5 ∧ (v9 : Int32).toInt = ((fa 6 5) ((a).toInt).toNat).toInt) ∨ ((5 : Int32).toInt = 6 ∧ (v9 : Int32).toInt = (smC (fun q : Nat => ((fa 6 3) q).toInt = (a).toInt) ((iv 6 7).toInt).toNat).toInt) ∨ (¬ (0 ≤ (5 : Int32).toInt ∧ (5 : Int32).toInt ≤ 6) ∧ (v9 : Int32).toInt = -100002)))) from (by have hv9 := congrArg Int32.toInt (show v9 = fa 6 5 (a.toInt).toNat from ev9); exact Or.inr ⟨⟨by omega, by omega⟩, Or.inr (Or.inr (Or.inr (Or.inr (Or.inr (Or.inl (⟨by omega, by omega⟩))))))⟩))⟩, ht9⟩) (fun q hq => by cases hq) dX11_paper_115
      · refine lv_tableIn (tgt := 116) (off := 101) hx hb dX11_paper_15 (by decide) (by decide) rfl (by decide) ?_
        refine lv_aload_n hx hb dX11_paper_116 rfl (lv_at hl 0 rfl) ?_
        refine gX_11_9 hx hb ht hown hK hP m_424 dX11_paper_117 ?_
        refine lv_iload_n hx hb dX11_paper_120 rfl (lv_at hl 1 rfl) ?_
        refine vp_callSi (W.runV (As := [.int a]) (rest := []) ⟨hx, hb, hml, hown, ht⟩ (c_X6_hanging_w l dC dI h g ca iv lv fa la hI a) (kV 1 ht m_1121 m_1122 m_1123 m_88 m_1124 rfl rfl hd_X6_hanging_v ⟨Nat.le_of_ble_eq_true rfl, Nat.le_of_ble_eq_true rfl⟩) (vR hP hK (rX_6 hK hP)) rfl rfl hl.1 rfl (lv_room (Nat.le_of_ble_eq_true rfl)) dX11_paper_121 ⟨Nat.le_of_ble_eq_true rfl, Nat.le_of_ble_eq_true rfl⟩) (fun r10 hr10 => ?_)
        obtain ⟨hr10, xr10_0⟩ := hr10
        have xr10_0 : (r10 : Int32).toInt = (smC (fun q : Nat => ((fa 6 3) q).toInt = (a : Int32).toInt) (((iv 6 7) : Int32).toInt).toNat).toInt := xr10_0
        have : (6 : Int32).toInt = 6 := (by decide)
        exact W.iret (v := r10) hx hb hr (fun t ht9 hW => ⟨r10, rfl, ⟨trivial, (show (((r10 : Int32).toInt = -100001 ∧ ¬ (0 ≤ (a).toInt ∧ (a).toInt < (iv 6 7).toInt)) ∨ ((0 ≤ (a).toInt ∧ (a).toInt < (iv 6 7).toInt) ∧ (((6 : Int32).toInt = 0 ∧ (r10 : Int32).toInt = ((fa 6 0) ((a).toInt).toNat).toInt) ∨ ((6 : Int32).toInt = 1 ∧ (r10 : Int32).toInt = ((fa 6 1) ((a).toInt).toNat).toInt) ∨ ((6 : Int32).toInt = 2 ∧ (r10 : Int32).toInt = ((fa 6 2) ((a).toInt).toNat).toInt) ∨ ((6 : Int32).toInt = 3 ∧ (r10 : Int32).toInt = ((fa 6 3) ((a).toInt).toNat).toInt) ∨ ((6 : Int32).toInt = 4 ∧ (r10 : Int32).toInt = ((fa 6 4) ((a).toInt).toNat).toInt) ∨ ((6 : Int32).toInt = 5 ∧ (r10 : Int32).toInt = ((fa 6 5) ((a).toInt).toNat).toInt) ∨ ((6 : Int32).toInt = 6 ∧ (r10 : Int32).toInt = (smC (fun q : Nat => ((fa 6 3) q).toInt = (a).toInt) ((iv 6 7).toInt).toNat).toInt) ∨ (¬ (0 ≤ (6 : Int32).toInt ∧ (6 : Int32).toInt ≤ 6) ∧ (r10 : Int32).toInt = -100002)))) from Or.inr ⟨⟨by omega, by omega⟩, Or.inr (Or.inr (Or.inr (Or.inr (Or.inr (Or.inr (Or.inl (⟨by omega, xr10_0⟩)))))))⟩)⟩, ht9⟩) (fun q hq => by cases hq) dX11_paper_124
    · exact absurd c2 (by decide)
  · skip
    have i_6_7 : 0 ≤ (iv 6 7).toInt ∧ (iv 6 7).toInt ≤ 40 := hI.1 6 7
    have fr1 : ¬ (0 ≤ (a : Int32).toInt ∧ (a : Int32).toInt < ((iv 6 7) : Int32).toInt) := fr1
    refine lv_if_ne (tgt := 14) hx hb dX11_paper_8 (by decide) (fun c11 => ?_) (fun c11 => ?_)
    · exact absurd rfl c11
    · skip
      refine lv_ldc hx hb hown (ht _ m_476) dX11_paper_11 ?_
      have : ((-100001) : Int32).toInt = (-100001) := (by decide)
      exact W.iret (v := (-100001)) hx hb hr (fun t ht9 hW => ⟨(-100001), rfl, ⟨trivial, (show ((((-100001) : Int32).toInt = -100001 ∧ ¬ (0 ≤ (a).toInt ∧ (a).toInt < (iv 6 7).toInt)) ∨ ((0 ≤ (a).toInt ∧ (a).toInt < (iv 6 7).toInt) ∧ (((b).toInt = 0 ∧ ((-100001) : Int32).toInt = ((fa 6 0) ((a).toInt).toNat).toInt) ∨ ((b).toInt = 1 ∧ ((-100001) : Int32).toInt = ((fa 6 1) ((a).toInt).toNat).toInt) ∨ ((b).toInt = 2 ∧ ((-100001) : Int32).toInt = ((fa 6 2) ((a).toInt).toNat).toInt) ∨ ((b).toInt = 3 ∧ ((-100001) : Int32).toInt = ((fa 6 3) ((a).toInt).toNat).toInt) ∨ ((b).toInt = 4 ∧ ((-100001) : Int32).toInt = ((fa 6 4) ((a).toInt).toNat).toInt) ∨ ((b).toInt = 5 ∧ ((-100001) : Int32).toInt = ((fa 6 5) ((a).toInt).toNat).toInt) ∨ ((b).toInt = 6 ∧ ((-100001) : Int32).toInt = (smC (fun q : Nat => ((fa 6 3) q).toInt = (a).toInt) ((iv 6 7).toInt).toNat).toInt) ∨ (¬ (0 ≤ (b).toInt ∧ (b).toInt ≤ 6) ∧ ((-100001) : Int32).toInt = -100002)))) from Or.inl ⟨by omega, by omega⟩)⟩, ht9⟩) (fun q hq => by cases hq) dX11_paper_13
set_option maxHeartbeats 4000000 in
set_option maxRecDepth 100000 in
/-- X12_paper -/
theorem c_X12_paper_w (l : Launch) (dC : Nat → ClassId) (dI : Nat → Nat → Nat) (h : Nat) (g : Nat → Nat → Nat) (ca : Nat → Nat → ClassId) (iv : Nat → Nat → Int32) (lv : Nat → Nat → Int64) (fa : Nat → Nat → Nat → Int32) (la : Nat → Nat → Nat → Int64) (hI : IX iv fa) (a : Int32) (b : Int32) (hJQ : ∀ p : Nat, (p : Int) < (iv 12 67).toInt → 0 ≤ (la 12 70 p).toInt ∧ ((fa 12 68 p).toInt = 0 → (la 12 70 p).toInt ≤ 129998) ∧ (la 12 70 p).toInt ≤ 129868002 ∧ -1 ≤ (fa 12 71 p).toInt ∧ (fa 12 71 p).toInt < (p : Int)) : Met l yX12_paper (wc yX12_paper cX12_paper 5 (some .int)) ({ frames := 2, cells := 0, slots := 0, locals := 46 } : Room) (pR (dC, dI) classes (WM h g ca iv lv fa la) (TM ca) [.ref h, .int a, .int b]) (vp_Si (fun r => (True) ∧ (((r.toInt = -100001 ∧ ¬ (0 ≤ a.toInt ∧ a.toInt < (iv 12 67).toInt)) ∨ ((0 ≤ a.toInt ∧ a.toInt < (iv 12 67).toInt) ∧ ((b.toInt = 0 ∧ r.toInt = ((fa 12 68) (a.toInt).toNat).toInt) ∨ (b.toInt = 1 ∧ r.toInt = ((fa 12 69) (a.toInt).toNat).toInt) ∨ (b.toInt = 2 ∧ r.toInt = ((la 12 70) (a.toInt).toNat).toInt) ∨ (b.toInt = 3 ∧ r.toInt = ((fa 12 71) (a.toInt).toNat).toInt) ∨ (b.toInt = 4 ∧ r.toInt = ((fa 12 72) (a.toInt).toNat).toInt) ∨ (b.toInt = 5 ∧ r.toInt = ((fa 12 73) (a.toInt).toNat).toInt) ∨ (b.toInt = 6 ∧ r.toInt = (smC (fun q : Nat => ((fa 12 71) q).toInt = a.toInt) ((iv 12 67).toInt).toNat).toInt) ∨ (¬ (0 ≤ b.toInt ∧ b.toInt ≤ 6) ∧ r.toInt = -100002))))))) 0 0 (fun _ => False) := by
  refine Met.ofW (cc := cX12_paper) (maxL := 5) (ret := (some .int)) (by decide) rfl ?_
  intro p e s m args below meth c s₁ B hml hv
  obtain ⟨rfl, hP, hK⟩ := hv
  have hx := B.exec
  have hb := B.bytes
  have hr := B.returns
  have ht := tb_tl (atoms_spec (ws := wc yX12_paper cX12_paper 5 (some .int)) B.pre)
  have hown : s.vm.findClass RX12 = some m.cls := findClass_of_methodNamed B.named
  have hlocks := B.notSynchronized
  have hl := lv_entry [.ref h, .int a, .int b] (n := 5) (Nat.le_of_ble_eq_true rfl)
  rw [lg_entry_eq]
  generalize (lg_sl [.ref h, .int a, .int b] ++ List.replicate (5 - (lg_sl [.ref h, .int a, .int b]).length) Slot.unset).toArray = ls at hl ⊢
  have hl : lv_has ls 5 [(0, .ref h), (1, .int a), (2, .int b)] := hl
  refine lv_aload_n hx hb dX12_paper_0 rfl (lv_at hl 0 rfl) ?_
  refine lv_iload_n hx hb dX12_paper_1 rfl (lv_at hl 1 rfl) ?_
  refine vp_callSi (W.runV (As := [.int a]) (rest := []) ⟨hx, hb, hml, hown, ht⟩ (c_X12_noPaper l dC dI h g ca iv lv fa la hI a) (kV 1 ht m_1684 m_1686 m_73 m_89 m_1687 rfl rfl hd_X12_noPaper_v ⟨Nat.le_of_ble_eq_true rfl, Nat.le_of_ble_eq_true rfl⟩) (vR hP hK (rM_12 hK hP)) rfl rfl hl.1 rfl (lv_room (Nat.le_of_ble_eq_true rfl)) dX12_paper_2 ⟨Nat.le_of_ble_eq_true rfl, Nat.le_of_ble_eq_true rfl⟩) (fun r1 hr1 => ?_)
  rcases hr1 with ⟨rfl, fr1⟩ | ⟨rfl, fr1⟩
  · skip
    have i_12_67 : 0 ≤ (iv 12 67).toInt ∧ (iv 12 67).toInt ≤ 40 := hI.1 12 67
    have fr1 : ¬ (0 ≤ (a : Int32).toInt ∧ (a : Int32).toInt < ((iv 12 67) : Int32).toInt) := fr1
    refine lv_if_eq (tgt := 11) hx hb dX12_paper_5 (by decide) (fun c2 => ?_) (fun c2 => ?_)
    · exact absurd c2 (by decide)
    · skip
      refine lv_ldc hx hb hown (ht _ m_1389) dX12_paper_8 ?_
      have : ((-100001) : Int32).toInt = (-100001) := (by decide)
      exact W.iret (v := (-100001)) hx hb hr (fun t ht9 hW => ⟨(-100001), rfl, ⟨trivial, (show ((((-100001) : Int32).toInt = -100001 ∧ ¬ (0 ≤ (a).toInt ∧ (a).toInt < (iv 12 67).toInt)) ∨ ((0 ≤ (a).toInt ∧ (a).toInt < (iv 12 67).toInt) ∧ (((b).toInt = 0 ∧ ((-100001) : Int32).toInt = ((fa 12 68) ((a).toInt).toNat).toInt) ∨ ((b).toInt = 1 ∧ ((-100001) : Int32).toInt = ((fa 12 69) ((a).toInt).toNat).toInt) ∨ ((b).toInt = 2 ∧ ((-100001) : Int32).toInt = ((la 12 70) ((a).toInt).toNat).toInt) ∨ ((b).toInt = 3 ∧ ((-100001) : Int32).toInt = ((fa 12 71) ((a).toInt).toNat).toInt) ∨ ((b).toInt = 4 ∧ ((-100001) : Int32).toInt = ((fa 12 72) ((a).toInt).toNat).toInt) ∨ ((b).toInt = 5 ∧ ((-100001) : Int32).toInt = ((fa 12 73) ((a).toInt).toNat).toInt) ∨ ((b).toInt = 6 ∧ ((-100001) : Int32).toInt = (smC (fun q : Nat => ((fa 12 71) q).toInt = (a).toInt) ((iv 12 67).toInt).toNat).toInt) ∨ (¬ (0 ≤ (b).toInt ∧ (b).toInt ≤ 6) ∧ ((-100001) : Int32).toInt = -100002)))) from Or.inl ⟨by omega, by omega⟩)⟩, ht9⟩) (fun q hq => by cases hq) dX12_paper_10
  · skip
    have i_12_67 : 0 ≤ (iv 12 67).toInt ∧ (iv 12 67).toInt ≤ 40 := hI.1 12 67
    have fr1 : (0 ≤ (a : Int32).toInt ∧ (a : Int32).toInt < ((iv 12 67) : Int32).toInt) := Decidable.not_not.mp fr1
    refine lv_if_eq (tgt := 11) hx hb dX12_paper_5 (by decide) (fun c3 => ?_) (fun c3 => ?_)
    · skip
      refine lv_iconst (v := 0) hx hb dX12_paper_11 (by decide) ?_
      refine lv_istore_n (lv' := [(3, .int 0), (0, .ref h), (1, .int a), (2, .int b)]) hx hb dX12_paper_12 rfl hl (by decide) rfl (fun ls hl => ?_)
      refine lv_iconst (v := 0) hx hb dX12_paper_13 (by decide) ?_
      refine lv_istore (lv' := [(4, .int 0), (3, .int 0), (0, .ref h), (1, .int a), (2, .int b)]) hx hb dX12_paper_14 hl (by decide) rfl (fun ls hl => ?_)
      have lp941 : ∀ (nn941 : Nat) (x940_4 : Int32) (x940_3 : Int32), 0 ≤ x940_4.toInt ∧ x940_4.toInt ≤ 40 → ((x940_3 : Int32).toInt = (smC (fun q : Nat => ((fa 12 71) q).toInt = (a).toInt) ((x940_4 : Int32).toInt).toNat).toInt) → (x940_4 : Int32).toInt ≤ ((iv 12 67) : Int32).toInt → 40 - x940_4.toInt < (nn941 : Int) → ∀ (ls : Array Slot), lv_has ls 5 [(4, .int x940_4), (3, .int x940_3), (0, .ref h), (1, .int a), (2, .int b)] → W p l e ({ frames := 2, cells := 0, slots := 0, locals := 46 } : Room) s m ([.ref h, .int a, .int b] : List Value).toArray below meth c s.heap [] 0 0 (MQ below (vp_Si (fun r => (True) ∧ (((r.toInt = -100001 ∧ ¬ (0 ≤ a.toInt ∧ a.toInt < (iv 12 67).toInt)) ∨ ((0 ≤ a.toInt ∧ a.toInt < (iv 12 67).toInt) ∧ ((b.toInt = 0 ∧ r.toInt = ((fa 12 68) (a.toInt).toNat).toInt) ∨ (b.toInt = 1 ∧ r.toInt = ((fa 12 69) (a.toInt).toNat).toInt) ∨ (b.toInt = 2 ∧ r.toInt = ((la 12 70) (a.toInt).toNat).toInt) ∨ (b.toInt = 3 ∧ r.toInt = ((fa 12 71) (a.toInt).toNat).toInt) ∨ (b.toInt = 4 ∧ r.toInt = ((fa 12 72) (a.toInt).toNat).toInt) ∨ (b.toInt = 5 ∧ r.toInt = ((fa 12 73) (a.toInt).toNat).toInt) ∨ (b.toInt = 6 ∧ r.toInt = (smC (fun q : Nat => ((fa 12 71) q).toInt = a.toInt) ((iv 12 67).toInt).toNat).toInt) ∨ (¬ (0 ≤ b.toInt ∧ b.toInt ≤ 6) ∧ r.toInt = -100002))))))) ([.ref h, .int a, .int b] : List Value).toArray s 0 0 (fun _ => False)) (F0 m 16 ls []) := by
        intro nn941
        induction nn941 with
        | zero => intro x940_4 x940_3 hx940_4 hq941_0 hq941_1 hm941; exfalso; omega
        | succ nn941 ih941 =>
          intro x940_4 x940_3 hx940_4 hq941_0 hq941_1 hm941 ls hl
          refine lv_iload hx hb dX12_paper_16 (lv_at hl 0 rfl) ?_
          refine lv_aload_n hx hb dX12_paper_18 rfl (lv_at hl 2 rfl) ?_
          refine gM_12_67 hx hb ht hown hK hP m_1206 (v := (iv 12 67)) rfl dX12_paper_19 ?_
          refine lv_icmp_ge (tgt := 53) hx hb dX12_paper_22 (by decide) (fun c942 => ?_) (fun c942 => ?_)
          · have fc942 := z_le (rfl : ((iv 12 67)).toInt = _) (rfl : (x940_4).toInt = _) c942
            refine lv_iload_n hx hb dX12_paper_53 rfl (lv_at hl 4 rfl) ?_
            rcases sw_0_6 b with h943 | rfl | rfl | rfl | rfl | rfl | rfl | rfl
            · refine lv_tableOut (tgt := 141) hx hb dX12_paper_54 h943 (by decide) ?_
              refine lv_ldc hx hb hown (ht _ m_1373) dX12_paper_141 ?_
              have : ((-100002) : Int32).toInt = (-100002) := (by decide)
              exact W.iret (v := (-100002)) hx hb hr (fun t ht9 hW => ⟨(-100002), rfl, ⟨trivial, (show ((((-100002) : Int32).toInt = -100001 ∧ ¬ (0 ≤ (a).toInt ∧ (a).toInt < (iv 12 67).toInt)) ∨ ((0 ≤ (a).toInt ∧ (a).toInt < (iv 12 67).toInt) ∧ (((b).toInt = 0 ∧ ((-100002) : Int32).toInt = ((fa 12 68) ((a).toInt).toNat).toInt) ∨ ((b).toInt = 1 ∧ ((-100002) : Int32).toInt = ((fa 12 69) ((a).toInt).toNat).toInt) ∨ ((b).toInt = 2 ∧ ((-100002) : Int32).toInt = ((la 12 70) ((a).toInt).toNat).toInt) ∨ ((b).toInt = 3 ∧ ((-100002) : Int32).toInt = ((fa 12 71) ((a).toInt).toNat).toInt) ∨ ((b).toInt = 4 ∧ ((-100002) : Int32).toInt = ((fa 12 72) ((a).toInt).toNat).toInt) ∨ ((b).toInt = 5 ∧ ((-100002) : Int32).toInt = ((fa 12 73) ((a).toInt).toNat).toInt) ∨ ((b).toInt = 6 ∧ ((-100002) : Int32).toInt = (smC (fun q : Nat => ((fa 12 71) q).toInt = (a).toInt) ((iv 12 67).toInt).toNat).toInt) ∨ (¬ (0 ≤ (b).toInt ∧ (b).toInt ≤ 6) ∧ ((-100002) : Int32).toInt = -100002)))) from Or.inr ⟨⟨by omega, by omega⟩, Or.inr (Or.inr (Or.inr (Or.inr (Or.inr (Or.inr (Or.inr (⟨by omega, by omega⟩)))))))⟩)⟩, ht9⟩) (fun q hq => by cases hq) dX12_paper_143
            · refine lv_tableIn (tgt := 96) (off := 42) hx hb dX12_paper_54 (by decide) (by decide) rfl (by decide) ?_
              refine lv_aload_n hx hb dX12_paper_96 rfl (lv_at hl 2 rfl) ?_
              refine gM_12_68 hx hb ht hown hK hP m_1207 dX12_paper_97 ?_
              refine lv_iload_n hx hb dX12_paper_100 rfl (lv_at hl 3 rfl) ?_
              refine lM_12_68 hx hb hK hP (f := (fa 12 68)) rfl (vp_in_iff.mpr ⟨by omega, by omega⟩) dX12_paper_101 ?_
              refine lv_topi (fun v944 ev944 => ?_)
              have : (0 : Int32).toInt = 0 := (by decide)
              exact W.iret (v := v944) hx hb hr (fun t ht9 hW => ⟨v944, rfl, ⟨trivial, (show (((v944 : Int32).toInt = -100001 ∧ ¬ (0 ≤ (a).toInt ∧ (a).toInt < (iv 12 67).toInt)) ∨ ((0 ≤ (a).toInt ∧ (a).toInt < (iv 12 67).toInt) ∧ (((0 : Int32).toInt = 0 ∧ (v944 : Int32).toInt = ((fa 12 68) ((a).toInt).toNat).toInt) ∨ ((0 : Int32).toInt = 1 ∧ (v944 : Int32).toInt = ((fa 12 69) ((a).toInt).toNat).toInt) ∨ ((0 : Int32).toInt = 2 ∧ (v944 : Int32).toInt = ((la 12 70) ((a).toInt).toNat).toInt) ∨ ((0 : Int32).toInt = 3 ∧ (v944 : Int32).toInt = ((fa 12 71) ((a).toInt).toNat).toInt) ∨ ((0 : Int32).toInt = 4 ∧ (v944 : Int32).toInt = ((fa 12 72) ((a).toInt).toNat).toInt) ∨ ((0 : Int32).toInt = 5 ∧ (v944 : Int32).toInt = ((fa 12 73) ((a).toInt).toNat).toInt) ∨ ((0 : Int32).toInt = 6 ∧ (v944 : Int32).toInt = (smC (fun q : Nat => ((fa 12 71) q).toInt = (a).toInt) ((iv 12 67).toInt).toNat).toInt) ∨ (¬ (0 ≤ (0 : Int32).toInt ∧ (0 : Int32).toInt ≤ 6) ∧ (v944 : Int32).toInt = -100002)))) from (by have hv9 := congrArg Int32.toInt (show v944 = fa 12 68 (a.toInt).toNat from ev944); exact Or.inr ⟨⟨by omega, by omega⟩, Or.inl (⟨by omega, by omega⟩)⟩))⟩, ht9⟩) (fun q hq => by cases hq) dX12_paper_102
            · refine lv_tableIn (tgt := 103) (off := 49) hx hb dX12_paper_54 (by decide) (by decide) rfl (by decide) ?_
              refine lv_aload_n hx hb dX12_paper_103 rfl (lv_at hl 2 rfl) ?_
              refine gM_12_69 hx hb ht hown hK hP m_1208 dX12_paper_104 ?_
              refine lv_iload_n hx hb dX12_paper_107 rfl (lv_at hl 3 rfl) ?_
              refine lM_12_69 hx hb hK hP (f := (fa 12 69)) rfl (vp_in_iff.mpr ⟨by omega, by omega⟩) dX12_paper_108 ?_
              refine lv_topi (fun v945 ev945 => ?_)
              have : (1 : Int32).toInt = 1 := (by decide)
              exact W.iret (v := v945) hx hb hr (fun t ht9 hW => ⟨v945, rfl, ⟨trivial, (show (((v945 : Int32).toInt = -100001 ∧ ¬ (0 ≤ (a).toInt ∧ (a).toInt < (iv 12 67).toInt)) ∨ ((0 ≤ (a).toInt ∧ (a).toInt < (iv 12 67).toInt) ∧ (((1 : Int32).toInt = 0 ∧ (v945 : Int32).toInt = ((fa 12 68) ((a).toInt).toNat).toInt) ∨ ((1 : Int32).toInt = 1 ∧ (v945 : Int32).toInt = ((fa 12 69) ((a).toInt).toNat).toInt) ∨ ((1 : Int32).toInt = 2 ∧ (v945 : Int32).toInt = ((la 12 70) ((a).toInt).toNat).toInt) ∨ ((1 : Int32).toInt = 3 ∧ (v945 : Int32).toInt = ((fa 12 71) ((a).toInt).toNat).toInt) ∨ ((1 : Int32).toInt = 4 ∧ (v945 : Int32).toInt = ((fa 12 72) ((a).toInt).toNat).toInt) ∨ ((1 : Int32).toInt = 5 ∧ (v945 : Int32).toInt = ((fa 12 73) ((a).toInt).toNat).toInt) ∨ ((1 : Int32).toInt = 6 ∧ (v945 : Int32).toInt = (smC (fun q : Nat => ((fa 12 71) q).toInt = (a).toInt) ((iv 12 67).toInt).toNat).toInt) ∨ (¬ (0 ≤ (1 : Int32).toInt ∧ (1 : Int32).toInt ≤ 6) ∧ (v945 : Int32).toInt = -100002)))) from (by have hv9 := congrArg Int32.toInt (show v945 = fa 12 69 (a.toInt).toNat from ev945); exact Or.inr ⟨⟨by omega, by omega⟩, Or.inr (Or.inl (⟨by omega, by omega⟩))⟩))⟩, ht9⟩) (fun q hq => by cases hq) dX12_paper_109
            · refine lv_tableIn (tgt := 110) (off := 56) hx hb dX12_paper_54 (by decide) (by decide) rfl (by decide) ?_
              refine lv_aload_n hx hb dX12_paper_110 rfl (lv_at hl 2 rfl) ?_
              refine gM_12_70 hx hb ht hown hK hP m_1209 dX12_paper_111 ?_
              refine lv_iload_n hx hb dX12_paper_114 rfl (lv_at hl 3 rfl) ?_
              refine lM_12_70 hx hb hK hP (f := (la 12 70)) rfl (vp_in_iff.mpr ⟨by omega, by omega⟩) dX12_paper_115 ?_
              refine lv_topl (fun w946 ew946 => ?_)
              obtain ⟨v947, ev947⟩ : ∃ y : Int32, w946.toInt32 = y := ⟨_, rfl⟩
              refine lv_l2i (v := v947) hx hb dX12_paper_116 ev947 ?_
              have : (2 : Int32).toInt = 2 := (by decide)
              exact W.iret (v := v947) hx hb hr (fun t ht9 hW => ⟨v947, rfl, ⟨trivial, (show (((v947 : Int32).toInt = -100001 ∧ ¬ (0 ≤ (a).toInt ∧ (a).toInt < (iv 12 67).toInt)) ∨ ((0 ≤ (a).toInt ∧ (a).toInt < (iv 12 67).toInt) ∧ (((2 : Int32).toInt = 0 ∧ (v947 : Int32).toInt = ((fa 12 68) ((a).toInt).toNat).toInt) ∨ ((2 : Int32).toInt = 1 ∧ (v947 : Int32).toInt = ((fa 12 69) ((a).toInt).toNat).toInt) ∨ ((2 : Int32).toInt = 2 ∧ (v947 : Int32).toInt = ((la 12 70) ((a).toInt).toNat).toInt) ∨ ((2 : Int32).toInt = 3 ∧ (v947 : Int32).toInt = ((fa 12 71) ((a).toInt).toNat).toInt) ∨ ((2 : Int32).toInt = 4 ∧ (v947 : Int32).toInt = ((fa 12 72) ((a).toInt).toNat).toInt) ∨ ((2 : Int32).toInt = 5 ∧ (v947 : Int32).toInt = ((fa 12 73) ((a).toInt).toNat).toInt) ∨ ((2 : Int32).toInt = 6 ∧ (v947 : Int32).toInt = (smC (fun q : Nat => ((fa 12 71) q).toInt = (a).toInt) ((iv 12 67).toInt).toNat).toInt) ∨ (¬ (0 ≤ (2 : Int32).toInt ∧ (2 : Int32).toInt ≤ 6) ∧ (v947 : Int32).toInt = -100002)))) from (by have hG9 := hJQ (a.toInt).toNat (by omega); have hw9 := congrArg Int64.toInt (show w946 = la 12 70 (a.toInt).toNat from ew946); have hc9 := l2i_q ev947 rfl (by omega) (by omega); exact Or.inr ⟨⟨by omega, by omega⟩, Or.inr (Or.inr (Or.inl (⟨by omega, by omega⟩)))⟩))⟩, ht9⟩) (fun q hq => by cases hq) dX12_paper_117
            · refine lv_tableIn (tgt := 118) (off := 64) hx hb dX12_paper_54 (by decide) (by decide) rfl (by decide) ?_
              refine lv_aload_n hx hb dX12_paper_118 rfl (lv_at hl 2 rfl) ?_
              refine gM_12_71 hx hb ht hown hK hP m_1210 dX12_paper_119 ?_
              refine lv_iload_n hx hb dX12_paper_122 rfl (lv_at hl 3 rfl) ?_
              refine lM_12_71 hx hb hK hP (f := (fa 12 71)) rfl (vp_in_iff.mpr ⟨by omega, by omega⟩) dX12_paper_123 ?_
              refine lv_topi (fun v948 ev948 => ?_)
              have tv948 : (-1) ≤ v948.toInt ∧ v948.toInt ≤ 39 := by rw [ev948]; exact hI.2 12 71 _
              have : (3 : Int32).toInt = 3 := (by decide)
              exact W.iret (v := v948) hx hb hr (fun t ht9 hW => ⟨v948, rfl, ⟨trivial, (show (((v948 : Int32).toInt = -100001 ∧ ¬ (0 ≤ (a).toInt ∧ (a).toInt < (iv 12 67).toInt)) ∨ ((0 ≤ (a).toInt ∧ (a).toInt < (iv 12 67).toInt) ∧ (((3 : Int32).toInt = 0 ∧ (v948 : Int32).toInt = ((fa 12 68) ((a).toInt).toNat).toInt) ∨ ((3 : Int32).toInt = 1 ∧ (v948 : Int32).toInt = ((fa 12 69) ((a).toInt).toNat).toInt) ∨ ((3 : Int32).toInt = 2 ∧ (v948 : Int32).toInt = ((la 12 70) ((a).toInt).toNat).toInt) ∨ ((3 : Int32).toInt = 3 ∧ (v948 : Int32).toInt = ((fa 12 71) ((a).toInt).toNat).toInt) ∨ ((3 : Int32).toInt = 4 ∧ (v948 : Int32).toInt = ((fa 12 72) ((a).toInt).toNat).toInt) ∨ ((3 : Int32).toInt = 5 ∧ (v948 : Int32).toInt = ((fa 12 73) ((a).toInt).toNat).toInt) ∨ ((3 : Int32).toInt = 6 ∧ (v948 : Int32).toInt = (smC (fun q : Nat => ((fa 12 71) q).toInt = (a).toInt) ((iv 12 67).toInt).toNat).toInt) ∨ (¬ (0 ≤ (3 : Int32).toInt ∧ (3 : Int32).toInt ≤ 6) ∧ (v948 : Int32).toInt = -100002)))) from (by have hv9 := congrArg Int32.toInt (show v948 = fa 12 71 (a.toInt).toNat from ev948); exact Or.inr ⟨⟨by omega, by omega⟩, Or.inr (Or.inr (Or.inr (Or.inl (⟨by omega, by omega⟩))))⟩))⟩, ht9⟩) (fun q hq => by cases hq) dX12_paper_124
            · refine lv_tableIn (tgt := 125) (off := 71) hx hb dX12_paper_54 (by decide) (by decide) rfl (by decide) ?_
              refine lv_aload_n hx hb dX12_paper_125 rfl (lv_at hl 2 rfl) ?_
              refine gM_12_72 hx hb ht hown hK hP m_1211 dX12_paper_126 ?_
              refine lv_iload_n hx hb dX12_paper_129 rfl (lv_at hl 3 rfl) ?_
              refine lM_12_72 hx hb hK hP (f := (fa 12 72)) rfl (vp_in_iff.mpr ⟨by omega, by omega⟩) dX12_paper_130 ?_
              refine lv_topi (fun v949 ev949 => ?_)
              have : (4 : Int32).toInt = 4 := (by decide)
              exact W.iret (v := v949) hx hb hr (fun t ht9 hW => ⟨v949, rfl, ⟨trivial, (show (((v949 : Int32).toInt = -100001 ∧ ¬ (0 ≤ (a).toInt ∧ (a).toInt < (iv 12 67).toInt)) ∨ ((0 ≤ (a).toInt ∧ (a).toInt < (iv 12 67).toInt) ∧ (((4 : Int32).toInt = 0 ∧ (v949 : Int32).toInt = ((fa 12 68) ((a).toInt).toNat).toInt) ∨ ((4 : Int32).toInt = 1 ∧ (v949 : Int32).toInt = ((fa 12 69) ((a).toInt).toNat).toInt) ∨ ((4 : Int32).toInt = 2 ∧ (v949 : Int32).toInt = ((la 12 70) ((a).toInt).toNat).toInt) ∨ ((4 : Int32).toInt = 3 ∧ (v949 : Int32).toInt = ((fa 12 71) ((a).toInt).toNat).toInt) ∨ ((4 : Int32).toInt = 4 ∧ (v949 : Int32).toInt = ((fa 12 72) ((a).toInt).toNat).toInt) ∨ ((4 : Int32).toInt = 5 ∧ (v949 : Int32).toInt = ((fa 12 73) ((a).toInt).toNat).toInt) ∨ ((4 : Int32).toInt = 6 ∧ (v949 : Int32).toInt = (smC (fun q : Nat => ((fa 12 71) q).toInt = (a).toInt) ((iv 12 67).toInt).toNat).toInt) ∨ (¬ (0 ≤ (4 : Int32).toInt ∧ (4 : Int32).toInt ≤ 6) ∧ (v949 : Int32).toInt = -100002)))) from (by have hv9 := congrArg Int32.toInt (show v949 = fa 12 72 (a.toInt).toNat from ev949); exact Or.inr ⟨⟨by omega, by omega⟩, Or.inr (Or.inr (Or.inr (Or.inr (Or.inl (⟨by omega, by omega⟩)))))⟩))⟩, ht9⟩) (fun q hq => by cases hq) dX12_paper_131
            · refine lv_tableIn (tgt := 132) (off := 78) hx hb dX12_paper_54 (by decide) (by decide) rfl (by decide) ?_
              refine lv_aload_n hx hb dX12_paper_132 rfl (lv_at hl 2 rfl) ?_
              refine gM_12_73 hx hb ht hown hK hP m_1212 dX12_paper_133 ?_
              refine lv_iload_n hx hb dX12_paper_136 rfl (lv_at hl 3 rfl) ?_
              refine lM_12_73 hx hb hK hP (f := (fa 12 73)) rfl (vp_in_iff.mpr ⟨by omega, by omega⟩) dX12_paper_137 ?_
              refine lv_topi (fun v950 ev950 => ?_)
              have : (5 : Int32).toInt = 5 := (by decide)
              exact W.iret (v := v950) hx hb hr (fun t ht9 hW => ⟨v950, rfl, ⟨trivial, (show (((v950 : Int32).toInt = -100001 ∧ ¬ (0 ≤ (a).toInt ∧ (a).toInt < (iv 12 67).toInt)) ∨ ((0 ≤ (a).toInt ∧ (a).toInt < (iv 12 67).toInt) ∧ (((5 : Int32).toInt = 0 ∧ (v950 : Int32).toInt = ((fa 12 68) ((a).toInt).toNat).toInt) ∨ ((5 : Int32).toInt = 1 ∧ (v950 : Int32).toInt = ((fa 12 69) ((a).toInt).toNat).toInt) ∨ ((5 : Int32).toInt = 2 ∧ (v950 : Int32).toInt = ((la 12 70) ((a).toInt).toNat).toInt) ∨ ((5 : Int32).toInt = 3 ∧ (v950 : Int32).toInt = ((fa 12 71) ((a).toInt).toNat).toInt) ∨ ((5 : Int32).toInt = 4 ∧ (v950 : Int32).toInt = ((fa 12 72) ((a).toInt).toNat).toInt) ∨ ((5 : Int32).toInt = 5 ∧ (v950 : Int32).toInt = ((fa 12 73) ((a).toInt).toNat).toInt) ∨ ((5 : Int32).toInt = 6 ∧ (v950 : Int32).toInt = (smC (fun q : Nat => ((fa 12 71) q).toInt = (a).toInt) ((iv 12 67).toInt).toNat).toInt) ∨ (¬ (0 ≤ (5 : Int32).toInt ∧ (5 : Int32).toInt ≤ 6) ∧ (v950 : Int32).toInt = -100002)))) from (by have hv9 := congrArg Int32.toInt (show v950 = fa 12 73 (a.toInt).toNat from ev950); exact Or.inr ⟨⟨by omega, by omega⟩, Or.inr (Or.inr (Or.inr (Or.inr (Or.inr (Or.inl (⟨by omega, by omega⟩))))))⟩))⟩, ht9⟩) (fun q hq => by cases hq) dX12_paper_138
            · refine lv_tableIn (tgt := 139) (off := 85) hx hb dX12_paper_54 (by decide) (by decide) rfl (by decide) ?_
              refine lv_iload_n hx hb dX12_paper_139 rfl (lv_at hl 1 rfl) ?_
              have : (6 : Int32).toInt = 6 := (by decide)
              exact W.iret (v := x940_3) hx hb hr (fun t ht9 hW => ⟨x940_3, rfl, ⟨trivial, (show (((x940_3 : Int32).toInt = -100001 ∧ ¬ (0 ≤ (a).toInt ∧ (a).toInt < (iv 12 67).toInt)) ∨ ((0 ≤ (a).toInt ∧ (a).toInt < (iv 12 67).toInt) ∧ (((6 : Int32).toInt = 0 ∧ (x940_3 : Int32).toInt = ((fa 12 68) ((a).toInt).toNat).toInt) ∨ ((6 : Int32).toInt = 1 ∧ (x940_3 : Int32).toInt = ((fa 12 69) ((a).toInt).toNat).toInt) ∨ ((6 : Int32).toInt = 2 ∧ (x940_3 : Int32).toInt = ((la 12 70) ((a).toInt).toNat).toInt) ∨ ((6 : Int32).toInt = 3 ∧ (x940_3 : Int32).toInt = ((fa 12 71) ((a).toInt).toNat).toInt) ∨ ((6 : Int32).toInt = 4 ∧ (x940_3 : Int32).toInt = ((fa 12 72) ((a).toInt).toNat).toInt) ∨ ((6 : Int32).toInt = 5 ∧ (x940_3 : Int32).toInt = ((fa 12 73) ((a).toInt).toNat).toInt) ∨ ((6 : Int32).toInt = 6 ∧ (x940_3 : Int32).toInt = (smC (fun q : Nat => ((fa 12 71) q).toInt = (a).toInt) ((iv 12 67).toInt).toNat).toInt) ∨ (¬ (0 ≤ (6 : Int32).toInt ∧ (6 : Int32).toInt ≤ 6) ∧ (x940_3 : Int32).toInt = -100002)))) from Or.inr ⟨⟨by omega, by omega⟩, Or.inr (Or.inr (Or.inr (Or.inr (Or.inr (Or.inr (Or.inl (⟨by omega, (by have hq9 := hq941_0; have he9 : (x940_4 : Int32).toInt = (iv 12 67).toInt := (by omega); rw [he9] at hq9; exact hq9)⟩)))))))⟩)⟩, ht9⟩) (fun q hq => by cases hq) dX12_paper_140
          · have fc942 := z_nle (rfl : ((iv 12 67)).toInt = _) (rfl : (x940_4).toInt = _) c942
            refine lv_iload_n hx hb dX12_paper_25 rfl (lv_at hl 1 rfl) ?_
            refine lv_aload_n hx hb dX12_paper_26 rfl (lv_at hl 2 rfl) ?_
            refine gM_12_71 hx hb ht hown hK hP m_1210 dX12_paper_27 ?_
            refine lv_iload hx hb dX12_paper_30 (lv_at hl 0 rfl) ?_
            refine lM_12_71 hx hb hK hP (f := (fa 12 71)) rfl (vp_in_iff.mpr ⟨by omega, by omega⟩) dX12_paper_32 ?_
            refine lv_topi (fun v951 ev951 => ?_)
            have tv951 : (-1) ≤ v951.toInt ∧ v951.toInt ≤ 39 := by rw [ev951]; exact hI.2 12 71 _
            refine lv_iload_n hx hb dX12_paper_33 rfl (lv_at hl 3 rfl) ?_
            refine lv_icmp_ne (tgt := 41) hx hb dX12_paper_34 (by decide) (fun c952 => ?_) (fun c952 => ?_)
            · have fc952 := z_ne (rfl : (v951).toInt = _) (rfl : (a).toInt = _) c952
              refine lv_iconst (v := 0) hx hb dX12_paper_41 (by decide) ?_
              refine vp_callSi (W.runS (As := [.int 0]) (rest := [.int x940_3]) ⟨hx, hb, hml, hown, ht⟩ (c_X12_bit_0 l dC dI) (kS 1 ht m_1396 m_1397 m_89 m_1398 rfl rfl hd_X12_bit_v ⟨Nat.le_of_ble_eq_true rfl, Nat.le_of_ble_eq_true rfl⟩) (sR noP (hK.sub (tys' := []) [] rfl)) rfl rfl hl.1 rfl (lv_room (Nat.le_of_ble_eq_true rfl)) dX12_paper_42 ⟨Nat.le_of_ble_eq_true rfl, Nat.le_of_ble_eq_true rfl⟩) (fun r953 hr953 => ?_)
              obtain rfl : 0 = r953 := hr953.symm
              refine lv_iadd hx hb dX12_paper_45 ?_
              refine lv_topi (fun v954 ev954 => ?_)
              refine lv_istore_n (lv' := [(3, .int v954), (4, .int x940_4), (0, .ref h), (1, .int a), (2, .int b)]) hx hb dX12_paper_46 rfl hl (by decide) rfl (fun ls hl => ?_)
              obtain ⟨v955, ev955⟩ : ∃ y : Int32, y = x940_4 + 1 := ⟨_, rfl⟩
              have tv955 := z_add ev955 rfl (by decide : (1 : Int32).toInt = 1) (by omega) (by omega)
              refine lv_iinc (v := v955) (lv' := [(4, .int v955), (3, .int v954), (0, .ref h), (1, .int a), (2, .int b)]) hx hb dX12_paper_47 hl (k := 1) rfl (by rw [ev955]; rfl) (by decide) rfl (fun ls hl => ?_)
              refine lv_goto (tgt := 16) hx hb dX12_paper_50 (by decide) ?_
              exact ih941 v955 v954 ⟨by omega, by omega⟩ (show (v954 : Int32).toInt = (smC (fun q : Nat => ((fa 12 71) q).toInt = (a).toInt) ((v955 : Int32).toInt).toNat).toInt from (by
                    have hv9 := congrArg Int32.toInt (show v951 = fa 12 71 ((x940_4 : Int32).toInt).toNat from ev951)
                    have hs9 : ((v955 : Int32).toInt).toNat = ((x940_4 : Int32).toInt).toNat + 1 := by omega
                    have h1 : x940_3 = smC _ _ := Int32.toInt_inj.mp hq941_0
                    rw [smC_n hs9 (show ¬ (fa 12 71 ((x940_4 : Int32).toInt).toNat).toInt = a.toInt from by omega), ← h1, ev954, Int32.add_zero])) (show (v955 : Int32).toInt ≤ ((iv 12 67) : Int32).toInt from by omega) (by omega) ls (lv_sub hl [0, 1, 2, 3, 4] rfl)
            · have fc952 := z_eq (rfl : (v951).toInt = _) (rfl : (a).toInt = _) c952
              refine lv_iconst (v := 1) hx hb dX12_paper_37 (by decide) ?_
              refine lv_goto (tgt := 42) hx hb dX12_paper_38 (by decide) ?_
              refine vp_callSi (W.runS (As := [.int 1]) (rest := [.int x940_3]) ⟨hx, hb, hml, hown, ht⟩ (c_X12_bit_1 l dC dI) (kS 1 ht m_1396 m_1397 m_89 m_1398 rfl rfl hd_X12_bit_v ⟨Nat.le_of_ble_eq_true rfl, Nat.le_of_ble_eq_true rfl⟩) (sR noP (hK.sub (tys' := []) [] rfl)) rfl rfl hl.1 rfl (lv_room (Nat.le_of_ble_eq_true rfl)) dX12_paper_42 ⟨Nat.le_of_ble_eq_true rfl, Nat.le_of_ble_eq_true rfl⟩) (fun r956 hr956 => ?_)
              obtain rfl : 1 = r956 := hr956.symm
              refine lv_iadd hx hb dX12_paper_45 ?_
              refine lv_topi (fun v957 ev957 => ?_)
              refine lv_istore_n (lv' := [(3, .int v957), (4, .int x940_4), (0, .ref h), (1, .int a), (2, .int b)]) hx hb dX12_paper_46 rfl hl (by decide) rfl (fun ls hl => ?_)
              obtain ⟨v958, ev958⟩ : ∃ y : Int32, y = x940_4 + 1 := ⟨_, rfl⟩
              have tv958 := z_add ev958 rfl (by decide : (1 : Int32).toInt = 1) (by omega) (by omega)
              refine lv_iinc (v := v958) (lv' := [(4, .int v958), (3, .int v957), (0, .ref h), (1, .int a), (2, .int b)]) hx hb dX12_paper_47 hl (k := 1) rfl (by rw [ev958]; rfl) (by decide) rfl (fun ls hl => ?_)
              refine lv_goto (tgt := 16) hx hb dX12_paper_50 (by decide) ?_
              exact ih941 v958 v957 ⟨by omega, by omega⟩ (show (v957 : Int32).toInt = (smC (fun q : Nat => ((fa 12 71) q).toInt = (a).toInt) ((v958 : Int32).toInt).toNat).toInt from (by
                    have hv9 := congrArg Int32.toInt (show v951 = fa 12 71 ((x940_4 : Int32).toInt).toNat from ev951)
                    have hs9 : ((v958 : Int32).toInt).toNat = ((x940_4 : Int32).toInt).toNat + 1 := by omega
                    have h1 : x940_3 = smC _ _ := Int32.toInt_inj.mp hq941_0
                    rw [smC_y hs9 (show (fa 12 71 ((x940_4 : Int32).toInt).toNat).toInt = a.toInt from by omega), ← h1, ev957])) (show (v958 : Int32).toInt ≤ ((iv 12 67) : Int32).toInt from by omega) (by omega) ls (lv_sub hl [0, 1, 2, 3, 4] rfl)
      have : (0 : Int32).toInt = 0 := (by decide)
      exact lp941 41 0 0 ⟨by decide, by decide⟩ (show (0 : Int32).toInt = (smC (fun q : Nat => ((fa 12 71) q).toInt = (a).toInt) ((0 : Int32).toInt).toNat).toInt from (by have hz : ((0 : Int32).toInt).toNat = 0 := (by decide); rw [hz]; exact (by decide : (0 : Int32).toInt = 0))) (show (0 : Int32).toInt ≤ ((iv 12 67) : Int32).toInt from by omega) (by first | decide | omega) ls (lv_sub hl [0, 1, 2, 3, 4] rfl)
    · exact absurd rfl c3
