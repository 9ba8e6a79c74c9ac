/-! ===== pb0 ===== -/
set_option maxHeartbeats 4000000 in
set_option maxRecDepth 100000 in
/-- X12_certify -/
theorem c_X12_certify_w (l : Launch) (dC : Nat → ClassId) (dI : Nat → Nat → Nat) (sz : Nat) (h : Nat) (g : Nat → Nat → Nat) (ca : Nat → Nat → ClassId) (iv : Nat → Nat → Int32) (lv : Nat → Nat → Int64) (fa : Nat → Nat → Nat → Int32) (la : Nat → Nat → Nat → Int64) (hI : IX iv fa) (a : Int32) (hJC : JCf (iv 12 23).toInt (fa 12 25) (fa 12 26) (fa 12 27) (fa 12 28)) (hJR : JRf (iv 12 3).toInt (fa 12 7)) (hJO : (iv 12 20).toInt = -1 ∧ (iv 12 21).toInt = -1 ∧ (iv 12 22).toInt = -1) (hJK : ∀ k j : Nat, (k : Int) < (iv 12 23).toInt → 12 * k ≤ j → (j : Int) < 12 * (k : Int) + (fa 12 25 k).toInt → (fa 12 26 j).toInt = 3 → 0 ≤ (fa 12 28 j).toInt ∧ (fa 12 28 j).toInt < (k : Int)) (hJD : ∀ s : Nat, (s : Int) < (iv 12 3).toInt → (100 ≤ (fa 12 7 s).toInt ∧ (fa 12 7 s).toInt ≤ 9999) ∧ (50 ≤ (fa 12 8 s).toInt ∧ (fa 12 8 s).toInt ≤ 9999)) (hJN : JNf (iv 12 3).toInt (fa 12 4) (fa 12 5)) (hJH : ∀ a d v : Int, 0 ≤ a → a ≤ 5 → FoY (iv 12 23).toInt (fa 12 24) (fa 12 25) (fa 12 26) (fa 12 27) (fa 12 28) a d v → fLo a ≤ v ∧ v ≤ fHi a) (hJI : ∀ j : Nat, (j : Int) < (iv 12 1).toInt → 1 ≤ (fa 12 2 j).toInt ∧ (fa 12 2 j).toInt ≤ 99999) : Met l yX12_certify (wc yX12_certify cX12_certify 4 (some .int)) ({ frames := 3, cells := 0, slots := 0, locals := 92 } : Room) (pW (dC, dI) classes (WM h g ca iv lv fa la) (TM ca) sz [.ref h, .int a]) (va_Qi (fun r (u : SS) => ∃ (na_12_39 : Nat → Int32) (na_12_40 : Nat → Int32) (na_12_68 : Nat → Int32) (na_12_69 : Nat → Int32) (na_12_71 : Nat → Int32) (na_12_72 : Nat → Int32) (na_12_73 : Nat → Int32) (na_12_74 : Nat → Int32) (nb_12_42 : Nat → Int64) (nb_12_43 : Nat → Int64) (nb_12_70 : Nat → Int64) (ni_12_19 : Int32) (ni_12_41 : Int32) (ni_12_67 : Int32) (nl_12_17 : Int64) (nl_12_18 : Int64) (nl_12_44 : Int64) (nl_12_45 : Int64) (nl_12_46 : Int64) (nl_12_47 : Int64), (∀ j, inb (bA 12 39 j) (na_12_39 j)) ∧ (∀ j, inb (bA 12 40 j) (na_12_40 j)) ∧ (∀ j, inb (bA 12 71 j) (na_12_71 j)) ∧ inb (bI 12 41) ni_12_41 ∧ inb (bI 12 67) ni_12_67 ∧ (((r.toInt = -100001 ∧ ¬ (0 ≤ a.toInt ∧ a.toInt < (iv 12 1).toInt) ∧ SmY (fa 12 68) (fa 12 69) (la 12 70) (fa 12 71) (fa 12 72) (fa 12 73) na_12_68 na_12_69 nb_12_70 na_12_71 na_12_72 na_12_73 ∧ (ni_12_67).toInt = (iv 12 67).toInt) ∨ (r.toInt = -100003 ∧ (0 ≤ a.toInt ∧ a.toInt < (iv 12 1).toInt) ∧ (CeY (iv 12 67).toInt (fa 12 68) (fa 12 69) (fa 12 73) a.toInt ∨ ∃ (D R : Nat → Int64) (up dn ro : Int), LwT (fun q v => FoY (iv 12 23).toInt (fa 12 24) (fa 12 25) (fa 12 26) (fa 12 27) (fa 12 28) q (iv 12 0).toInt v) (fa 12 4) (fa 12 5) (fa 12 11) (fa 12 12) (fa 12 7) (fa 12 8) a.toInt (iv 12 0).toInt ((iv 12 3).toInt).toNat D R up dn ro ∧ ro ≠ 1) ∧ SmY (fa 12 68) (fa 12 69) (la 12 70) (fa 12 71) (fa 12 72) (fa 12 73) na_12_68 na_12_69 nb_12_70 na_12_71 na_12_72 na_12_73 ∧ (ni_12_67).toInt = (iv 12 67).toInt) ∨ (r.toInt = -100004 ∧ (0 ≤ a.toInt ∧ a.toInt < (iv 12 1).toInt) ∧ ¬ CeY (iv 12 67).toInt (fa 12 68) (fa 12 69) (fa 12 73) a.toInt ∧ (∃ (D R : Nat → Int64) (up dn ro : Int), LwT (fun q v => FoY (iv 12 23).toInt (fa 12 24) (fa 12 25) (fa 12 26) (fa 12 27) (fa 12 28) q (iv 12 0).toInt v) (fa 12 4) (fa 12 5) (fa 12 11) (fa 12 12) (fa 12 7) (fa 12 8) a.toInt (iv 12 0).toInt ((iv 12 3).toInt).toNat D R up dn ro ∧ ro = 1) ∧ 40 ≤ (iv 12 67).toInt ∧ SmY (fa 12 68) (fa 12 69) (la 12 70) (fa 12 71) (fa 12 72) (fa 12 73) na_12_68 na_12_69 nb_12_70 na_12_71 na_12_72 na_12_73 ∧ (ni_12_67).toInt = (iv 12 67).toInt) ∨ ((0 ≤ a.toInt ∧ a.toInt < (iv 12 1).toInt) ∧ ¬ CeY (iv 12 67).toInt (fa 12 68) (fa 12 69) (fa 12 73) a.toInt ∧ (iv 12 67).toInt < 40 ∧ r.toInt = (iv 12 67).toInt ∧ (ni_12_67).toInt = (iv 12 67).toInt + 1 ∧ ∃ (D R : Nat → Int64) (up dn ro : Int), LwT (fun q v => FoY (iv 12 23).toInt (fa 12 24) (fa 12 25) (fa 12 26) (fa 12 27) (fa 12 28) q (iv 12 0).toInt v) (fa 12 4) (fa 12 5) (fa 12 11) (fa 12 12) (fa 12 7) (fa 12 8) a.toInt (iv 12 0).toInt ((iv 12 3).toInt).toNat D R up dn ro ∧ ro = 1 ∧ ∃ wt LU LD : Int, FoY (iv 12 23).toInt (fa 12 24) (fa 12 25) (fa 12 26) (fa 12 27) (fa 12 28) 0 (iv 12 0).toInt wt ∧ 0 ≤ wt ∧ LwY up dn (((fa 12 2) (a.toInt).toNat).toInt * (1000 + wt)) LU LD ∧ ApY ((iv 12 67).toInt).toNat (fa 12 68) (fa 12 69) (la 12 70) (fa 12 71) (fa 12 72) (fa 12 73) na_12_68 na_12_69 nb_12_70 na_12_71 na_12_72 na_12_73 0 a.toInt (LU / LD) (-1) (iv 12 0).toInt))) ∧ ((-100004) ≤ r.toInt ∧ r.toInt ≤ 39) ∧ u = ((u2 (u2 (u2 iv 12 19 ni_12_19) 12 41 ni_12_41) 12 67 ni_12_67), (u2 (u2 (u2 (u2 (u2 (u2 lv 12 17 nl_12_17) 12 18 nl_12_18) 12 44 nl_12_44) 12 45 nl_12_45) 12 46 nl_12_46) 12 47 nl_12_47), (u2 (u2 (u2 (u2 (u2 (u2 (u2 (u2 fa 12 39 na_12_39) 12 40 na_12_40) 12 68 na_12_68) 12 69 na_12_69) 12 71 na_12_71) 12 72 na_12_72) 12 73 na_12_73) 12 74 na_12_74), (u2 (u2 (u2 la 12 42 nb_12_42) 12 43 nb_12_43) 12 70 nb_12_70))) (bM (dC, dI) h g ca (va_A (WM h g ca iv lv fa la) sz)) (va_A (WM h g ca iv lv fa la) sz)) 0 0 (va_A (WM h g ca iv lv fa la) sz) := by
  refine Met.ofW (cc := cX12_certify) (maxL := 4) (ret := (some .int)) (by decide) rfl ?_
  intro p e s m args below meth c s₁ B hml hv
  obtain ⟨rfl, hsz, hP, hK, hD0⟩ := hv
  have hx := B.exec
  have hb := B.bytes
  have hr := B.returns
  have ht := tb_tl (atoms_spec (ws := wc yX12_certify cX12_certify 4 (some .int)) B.pre)
  have hown : s.vm.findClass RX12 = some m.cls := findClass_of_methodNamed B.named
  have hlocks := B.notSynchronized
  subst hsz
  have hD := hD0.self (sz := s.heap.size)
  generalize hAe : va_A (WM h g ca iv lv fa la) s.heap.size = A at hD ⊢
  have hA : ∀ q : Nat, s.heap.size ≤ q → A q := fun q h => by rw [← hAe]; exact Or.inr h
  have hS : va_S A s.heap s.heap [] := va_S.rf
  have hl := lv_entry [.ref h, .int a] (n := 4) (Nat.le_of_ble_eq_true rfl)
  rw [lg_entry_eq]
  generalize (lg_sl [.ref h, .int a] ++ List.replicate (4 - (lg_sl [.ref h, .int a]).length) Slot.unset).toArray = ls at hl ⊢
  have hl : lv_has ls 4 [(0, .ref h), (1, .int a)] := hl
  refine lv_aload_n hx hb dX12_certify_0 rfl (lv_at hl 0 rfl) ?_
  refine lv_iload_n hx hb dX12_certify_1 rfl (lv_at hl 1 rfl) ?_
  refine vp_callSi (W.runV (As := [.int a]) (rest := []) ⟨hx, hb, hml, hown, ht⟩ (c_X12_noBale l dC dI h g ca iv lv fa la hI a) (kV 1 ht m_1385 m_1387 m_42 m_89 m_1388 rfl rfl hd_X12_noBale_v ⟨Nat.le_of_ble_eq_true rfl, Nat.le_of_ble_eq_true rfl⟩) (vR hP hK (rM_12 hK hP)) rfl rfl hl.1 rfl (lv_room (Nat.le_of_ble_eq_true rfl)) dX12_certify_2 ⟨Nat.le_of_ble_eq_true rfl, Nat.le_of_ble_eq_true rfl⟩) (fun r1 hr1 => ?_)
  rcases hr1 with ⟨rfl, fr1⟩ | ⟨rfl, fr1⟩
  · skip
    have i_12_1 : 0 ≤ (iv 12 1).toInt ∧ (iv 12 1).toInt ≤ 10 := hI.1 12 1
    have fr1 : ¬ (0 ≤ (a : Int32).toInt ∧ (a : Int32).toInt < ((iv 12 1) : Int32).toInt) := fr1
    refine lv_if_eq (tgt := 11) hx hb dX12_certify_5 (by decide) (fun c2 => ?_) (fun c2 => ?_)
    · exact absurd c2 (by decide)
    · skip
      refine lv_ldc hx hb hown (ht _ m_1389) dX12_certify_8 ?_
      have : ((-100001) : Int32).toInt = (-100001) := (by decide)
      have i_12_67 : 0 ≤ (iv 12 67).toInt ∧ (iv 12 67).toInt ≤ 40 := hI.1 12 67
      have hP9 : va_P (dC, dI) classes (WM h g ca (u2 (u2 (u2 iv 12 19 (iv 12 19)) 12 41 (iv 12 41)) 12 67 (iv 12 67)) (u2 (u2 (u2 (u2 (u2 (u2 lv 12 17 (lv 12 17)) 12 18 (lv 12 18)) 12 44 (lv 12 44)) 12 45 (lv 12 45)) 12 46 (lv 12 46)) 12 47 (lv 12 47)) (u2 (u2 (u2 (u2 (u2 (u2 (u2 (u2 fa 12 39 (fa 12 39)) 12 40 (fa 12 40)) 12 68 (fa 12 68)) 12 69 (fa 12 69)) 12 71 (fa 12 71)) 12 72 (fa 12 72)) 12 73 (fa 12 73)) 12 74 (fa 12 74)) (u2 (u2 (u2 la 12 42 (la 12 42)) 12 43 (la 12 43)) 12 70 (la 12 70))) s.heap := hP
      have hD9 : va_D A (WM h g ca (u2 (u2 (u2 iv 12 19 (iv 12 19)) 12 41 (iv 12 41)) 12 67 (iv 12 67)) (u2 (u2 (u2 (u2 (u2 (u2 lv 12 17 (lv 12 17)) 12 18 (lv 12 18)) 12 44 (lv 12 44)) 12 45 (lv 12 45)) 12 46 (lv 12 46)) 12 47 (lv 12 47)) (u2 (u2 (u2 (u2 (u2 (u2 (u2 (u2 fa 12 39 (fa 12 39)) 12 40 (fa 12 40)) 12 68 (fa 12 68)) 12 69 (fa 12 69)) 12 71 (fa 12 71)) 12 72 (fa 12 72)) 12 73 (fa 12 73)) 12 74 (fa 12 74)) (u2 (u2 (u2 la 12 42 (la 12 42)) 12 43 (la 12 43)) 12 70 (la 12 70))) := hD
      exact W.iret (v := (-100001)) hx hb hr (fun t ht9 hW => ⟨⟨(-100001), ((u2 (u2 (u2 iv 12 19 (iv 12 19)) 12 41 (iv 12 41)) 12 67 (iv 12 67)), (u2 (u2 (u2 (u2 (u2 (u2 lv 12 17 (lv 12 17)) 12 18 (lv 12 18)) 12 44 (lv 12 44)) 12 45 (lv 12 45)) 12 46 (lv 12 46)) 12 47 (lv 12 47)), (u2 (u2 (u2 (u2 (u2 (u2 (u2 (u2 fa 12 39 (fa 12 39)) 12 40 (fa 12 40)) 12 68 (fa 12 68)) 12 69 (fa 12 69)) 12 71 (fa 12 71)) 12 72 (fa 12 72)) 12 73 (fa 12 73)) 12 74 (fa 12 74)), (u2 (u2 (u2 la 12 42 (la 12 42)) 12 43 (la 12 43)) 12 70 (la 12 70))), rfl, ⟨(fa 12 39), (fa 12 40), (fa 12 68), (fa 12 69), (fa 12 71), (fa 12 72), (fa 12 73), (fa 12 74), (la 12 42), (la 12 43), (la 12 70), (iv 12 19), (iv 12 41), (iv 12 67), (lv 12 17), (lv 12 18), (lv 12 44), (lv 12 45), (lv 12 46), (lv 12 47), (hI.2 12 39), (hI.2 12 40), (hI.2 12 71), (hI.1 12 41), (hI.1 12 67), (show ((((-100001) : Int32).toInt = -100001 ∧ ¬ (0 ≤ (a).toInt ∧ (a).toInt < (iv 12 1).toInt) ∧ SmY (fa 12 68) (fa 12 69) (la 12 70) (fa 12 71) (fa 12 72) (fa 12 73) (fa 12 68) (fa 12 69) (la 12 70) (fa 12 71) (fa 12 72) (fa 12 73) ∧ ((iv 12 67) : Int32).toInt = (iv 12 67).toInt) ∨ (((-100001) : Int32).toInt = -100003 ∧ (0 ≤ (a).toInt ∧ (a).toInt < (iv 12 1).toInt) ∧ (CeY (iv 12 67).toInt (fa 12 68) (fa 12 69) (fa 12 73) (a).toInt ∨ ∃ (D R : Nat → Int64) (up dn ro : Int), LwT (fun q v => FoY (iv 12 23).toInt (fa 12 24) (fa 12 25) (fa 12 26) (fa 12 27) (fa 12 28) q (iv 12 0).toInt v) (fa 12 4) (fa 12 5) (fa 12 11) (fa 12 12) (fa 12 7) (fa 12 8) (a).toInt (iv 12 0).toInt ((iv 12 3).toInt).toNat D R up dn ro ∧ ro ≠ 1) ∧ SmY (fa 12 68) (fa 12 69) (la 12 70) (fa 12 71) (fa 12 72) (fa 12 73) (fa 12 68) (fa 12 69) (la 12 70) (fa 12 71) (fa 12 72) (fa 12 73) ∧ ((iv 12 67) : Int32).toInt = (iv 12 67).toInt) ∨ (((-100001) : Int32).toInt = -100004 ∧ (0 ≤ (a).toInt ∧ (a).toInt < (iv 12 1).toInt) ∧ ¬ CeY (iv 12 67).toInt (fa 12 68) (fa 12 69) (fa 12 73) (a).toInt ∧ (∃ (D R : Nat → Int64) (up dn ro : Int), LwT (fun q v => FoY (iv 12 23).toInt (fa 12 24) (fa 12 25) (fa 12 26) (fa 12 27) (fa 12 28) q (iv 12 0).toInt v) (fa 12 4) (fa 12 5) (fa 12 11) (fa 12 12) (fa 12 7) (fa 12 8) (a).toInt (iv 12 0).toInt ((iv 12 3).toInt).toNat D R up dn ro ∧ ro = 1) ∧ 40 ≤ (iv 12 67).toInt ∧ SmY (fa 12 68) (fa 12 69) (la 12 70) (fa 12 71) (fa 12 72) (fa 12 73) (fa 12 68) (fa 12 69) (la 12 70) (fa 12 71) (fa 12 72) (fa 12 73) ∧ ((iv 12 67) : Int32).toInt = (iv 12 67).toInt) ∨ ((0 ≤ (a).toInt ∧ (a).toInt < (iv 12 1).toInt) ∧ ¬ CeY (iv 12 67).toInt (fa 12 68) (fa 12 69) (fa 12 73) (a).toInt ∧ (iv 12 67).toInt < 40 ∧ ((-100001) : Int32).toInt = (iv 12 67).toInt ∧ ((iv 12 67) : Int32).toInt = (iv 12 67).toInt + 1 ∧ ∃ (D R : Nat → Int64) (up dn ro : Int), LwT (fun q v => FoY (iv 12 23).toInt (fa 12 24) (fa 12 25) (fa 12 26) (fa 12 27) (fa 12 28) q (iv 12 0).toInt v) (fa 12 4) (fa 12 5) (fa 12 11) (fa 12 12) (fa 12 7) (fa 12 8) (a).toInt (iv 12 0).toInt ((iv 12 3).toInt).toNat D R up dn ro ∧ ro = 1 ∧ ∃ wt LU LD : Int, FoY (iv 12 23).toInt (fa 12 24) (fa 12 25) (fa 12 26) (fa 12 27) (fa 12 28) 0 (iv 12 0).toInt wt ∧ 0 ≤ wt ∧ LwY up dn (((fa 12 2) ((a).toInt).toNat).toInt * (1000 + wt)) LU LD ∧ ApY ((iv 12 67).toInt).toNat (fa 12 68) (fa 12 69) (la 12 70) (fa 12 71) (fa 12 72) (fa 12 73) (fa 12 68) (fa 12 69) (la 12 70) (fa 12 71) (fa 12 72) (fa 12 73) 0 (a).toInt (LU / LD) (-1) (iv 12 0).toInt)) from Or.inl ⟨by omega, by omega, (fun j => ⟨rfl, rfl, rfl, rfl, rfl, rfl⟩), by omega⟩), ⟨by decide, by decide⟩, rfl⟩, by rw [ht9]; exact hP9, hD9⟩, hS.F ht9⟩) hS.2.2 dX12_certify_10
  · skip
    have i_12_1 : 0 ≤ (iv 12 1).toInt ∧ (iv 12 1).toInt ≤ 10 := hI.1 12 1
    have fr1 : (0 ≤ (a : Int32).toInt ∧ (a : Int32).toInt < ((iv 12 1) : Int32).toInt) := Decidable.not_not.mp fr1
    refine lv_if_eq (tgt := 11) hx hb dX12_certify_5 (by decide) (fun c3 => ?_) (fun c3 => ?_)
    · skip
      refine lv_iconst (v := 0) hx hb dX12_certify_11 (by decide) ?_
      refine lv_istore_n (lv' := [(2, .int 0), (0, .ref h), (1, .int a)]) hx hb dX12_certify_12 rfl hl (by decide) rfl (fun ls hl => ?_)
      refine lv_iconst (v := 0) hx hb dX12_certify_13 (by decide) ?_
      refine lv_istore_n (lv' := [(3, .int 0), (2, .int 0), (0, .ref h), (1, .int a)]) hx hb dX12_certify_14 rfl hl (by decide) rfl (fun ls hl => ?_)
      have i_12_67 : 0 ≤ (iv 12 67).toInt ∧ (iv 12 67).toInt ≤ 40 := hI.1 12 67
      have lp936 : ∀ (nn936 : Nat) (x935_3 : Int32) (x935_2 : Int32), 0 ≤ x935_3.toInt ∧ x935_3.toInt ≤ 40 → 0 ≤ x935_2.toInt ∧ x935_2.toInt ≤ 1 → ((((x935_2 : Int32).toInt = 1 ∧ ∃ p : Nat, (p : Int) < (x935_3 : Int32).toInt ∧ (((fa 12 68) p).toInt = 0 ∧ ((fa 12 69) p).toInt = (a).toInt ∧ ((fa 12 73) p).toInt < 0)) ∨ ((x935_2 : Int32).toInt = 0 ∧ ∀ p : Nat, (p : Int) < (x935_3 : Int32).toInt → ¬ (((fa 12 68) p).toInt = 0 ∧ ((fa 12 69) p).toInt = (a).toInt ∧ ((fa 12 73) p).toInt < 0)))) → (x935_3 : Int32).toInt ≤ ((iv 12 67) : Int32).toInt → 40 - x935_3.toInt < (nn936 : Int) → ∀ (H : Heap) (locs : List Loc), ∀ (ls : Array Slot), va_P (dC, dI) classes (WM h g ca iv lv fa la) H → va_D A (WM h g ca iv lv fa la) → va_S A s.heap H locs → lv_has ls 4 [(3, .int x935_3), (2, .int x935_2), (0, .ref h), (1, .int a)] → W p l e ({ frames := 3, cells := 0, slots := 0, locals := 92 } : Room) s m ([.ref h, .int a] : List Value).toArray below meth c H locs 0 0 (MQ below (va_Qi (fun r (u : SS) => ∃ (na_12_39 : Nat → Int32) (na_12_40 : Nat → Int32) (na_12_68 : Nat → Int32) (na_12_69 : Nat → Int32) (na_12_71 : Nat → Int32) (na_12_72 : Nat → Int32) (na_12_73 : Nat → Int32) (na_12_74 : Nat → Int32) (nb_12_42 : Nat → Int64) (nb_12_43 : Nat → Int64) (nb_12_70 : Nat → Int64) (ni_12_19 : Int32) (ni_12_41 : Int32) (ni_12_67 : Int32) (nl_12_17 : Int64) (nl_12_18 : Int64) (nl_12_44 : Int64) (nl_12_45 : Int64) (nl_12_46 : Int64) (nl_12_47 : Int64), (∀ j, inb (bA 12 39 j) (na_12_39 j)) ∧ (∀ j, inb (bA 12 40 j) (na_12_40 j)) ∧ (∀ j, inb (bA 12 71 j) (na_12_71 j)) ∧ inb (bI 12 41) ni_12_41 ∧ inb (bI 12 67) ni_12_67 ∧ (((r.toInt = -100001 ∧ ¬ (0 ≤ a.toInt ∧ a.toInt < (iv 12 1).toInt) ∧ SmY (fa 12 68) (fa 12 69) (la 12 70) (fa 12 71) (fa 12 72) (fa 12 73) na_12_68 na_12_69 nb_12_70 na_12_71 na_12_72 na_12_73 ∧ (ni_12_67).toInt = (iv 12 67).toInt) ∨ (r.toInt = -100003 ∧ (0 ≤ a.toInt ∧ a.toInt < (iv 12 1).toInt) ∧ (CeY (iv 12 67).toInt (fa 12 68) (fa 12 69) (fa 12 73) a.toInt ∨ ∃ (D R : Nat → Int64) (up dn ro : Int), LwT (fun q v => FoY (iv 12 23).toInt (fa 12 24) (fa 12 25) (fa 12 26) (fa 12 27) (fa 12 28) q (iv 12 0).toInt v) (fa 12 4) (fa 12 5) (fa 12 11) (fa 12 12) (fa 12 7) (fa 12 8) a.toInt (iv 12 0).toInt ((iv 12 3).toInt).toNat D R up dn ro ∧ ro ≠ 1) ∧ SmY (fa 12 68) (fa 12 69) (la 12 70) (fa 12 71) (fa 12 72) (fa 12 73) na_12_68 na_12_69 nb_12_70 na_12_71 na_12_72 na_12_73 ∧ (ni_12_67).toInt = (iv 12 67).toInt) ∨ (r.toInt = -100004 ∧ (0 ≤ a.toInt ∧ a.toInt < (iv 12 1).toInt) ∧ ¬ CeY (iv 12 67).toInt (fa 12 68) (fa 12 69) (fa 12 73) a.toInt ∧ (∃ (D R : Nat → Int64) (up dn ro : Int), LwT (fun q v => FoY (iv 12 23).toInt (fa 12 24) (fa 12 25) (fa 12 26) (fa 12 27) (fa 12 28) q (iv 12 0).toInt v) (fa 12 4) (fa 12 5) (fa 12 11) (fa 12 12) (fa 12 7) (fa 12 8) a.toInt (iv 12 0).toInt ((iv 12 3).toInt).toNat D R up dn ro ∧ ro = 1) ∧ 40 ≤ (iv 12 67).toInt ∧ SmY (fa 12 68) (fa 12 69) (la 12 70) (fa 12 71) (fa 12 72) (fa 12 73) na_12_68 na_12_69 nb_12_70 na_12_71 na_12_72 na_12_73 ∧ (ni_12_67).toInt = (iv 12 67).toInt) ∨ ((0 ≤ a.toInt ∧ a.toInt < (iv 12 1).toInt) ∧ ¬ CeY (iv 12 67).toInt (fa 12 68) (fa 12 69) (fa 12 73) a.toInt ∧ (iv 12 67).toInt < 40 ∧ r.toInt = (iv 12 67).toInt ∧ (ni_12_67).toInt = (iv 12 67).toInt + 1 ∧ ∃ (D R : Nat → Int64) (up dn ro : Int), LwT (fun q v => FoY (iv 12 23).toInt (fa 12 24) (fa 12 25) (fa 12 26) (fa 12 27) (fa 12 28) q (iv 12 0).toInt v) (fa 12 4) (fa 12 5) (fa 12 11) (fa 12 12) (fa 12 7) (fa 12 8) a.toInt (iv 12 0).toInt ((iv 12 3).toInt).toNat D R up dn ro ∧ ro = 1 ∧ ∃ wt LU LD : Int, FoY (iv 12 23).toInt (fa 12 24) (fa 12 25) (fa 12 26) (fa 12 27) (fa 12 28) 0 (iv 12 0).toInt wt ∧ 0 ≤ wt ∧ LwY up dn (((fa 12 2) (a.toInt).toNat).toInt * (1000 + wt)) LU LD ∧ ApY ((iv 12 67).toInt).toNat (fa 12 68) (fa 12 69) (la 12 70) (fa 12 71) (fa 12 72) (fa 12 73) na_12_68 na_12_69 nb_12_70 na_12_71 na_12_72 na_12_73 0 a.toInt (LU / LD) (-1) (iv 12 0).toInt))) ∧ ((-100004) ≤ r.toInt ∧ r.toInt ≤ 39) ∧ u = ((u2 (u2 (u2 iv 12 19 ni_12_19) 12 41 ni_12_41) 12 67 ni_12_67), (u2 (u2 (u2 (u2 (u2 (u2 lv 12 17 nl_12_17) 12 18 nl_12_18) 12 44 nl_12_44) 12 45 nl_12_45) 12 46 nl_12_46) 12 47 nl_12_47), (u2 (u2 (u2 (u2 (u2 (u2 (u2 (u2 fa 12 39 na_12_39) 12 40 na_12_40) 12 68 na_12_68) 12 69 na_12_69) 12 71 na_12_71) 12 72 na_12_72) 12 73 na_12_73) 12 74 na_12_74), (u2 (u2 (u2 la 12 42 nb_12_42) 12 43 nb_12_43) 12 70 nb_12_70))) (bM (dC, dI) h g ca A) A) ([.ref h, .int a] : List Value).toArray s 0 0 A) (F0 m 15 ls []) := by
        intro nn936
        induction nn936 with
        | zero => intro x935_3 x935_2 hx935_3 hx935_2 hq936_0 hq936_1 hm936; exfalso; omega
        | succ nn936 ih936 =>
          intro x935_3 x935_2 hx935_3 hx935_2 hq936_0 hq936_1 hm936 H locs ls hP hD hS hl
          refine lv_iload_n hx hb dX12_certify_15 rfl (lv_at hl 0 rfl) ?_
          refine lv_aload_n hx hb dX12_certify_16 rfl (lv_at hl 2 rfl) ?_
          refine gM_12_67 hx hb ht hown hK hP m_1206 (v := (iv 12 67)) rfl dX12_certify_17 ?_
          refine lv_icmp_ge (tgt := 67) hx hb dX12_certify_20 (by decide) (fun c937 => ?_) (fun c937 => ?_)
          · have fc937 := z_le (rfl : ((iv 12 67)).toInt = _) (rfl : (x935_3).toInt = _) c937
            refine lv_iload_n hx hb dX12_certify_67 rfl (lv_at hl 1 rfl) ?_
            refine lv_if_ne (tgt := 84) hx hb dX12_certify_68 (by decide) (fun c938 => ?_) (fun c938 => ?_)
            · have fc938 := z_ne (rfl : (x935_2).toInt = _) (by decide : (0 : Int32).toInt = 0) c938
              refine lv_ldc hx hb hown (ht _ m_1374) dX12_certify_84 ?_
              have : ((-100003) : Int32).toInt = (-100003) := (by decide)
              have hP9 : va_P (dC, dI) classes (WM h g ca (u2 (u2 (u2 iv 12 19 (iv 12 19)) 12 41 (iv 12 41)) 12 67 (iv 12 67)) (u2 (u2 (u2 (u2 (u2 (u2 lv 12 17 (lv 12 17)) 12 18 (lv 12 18)) 12 44 (lv 12 44)) 12 45 (lv 12 45)) 12 46 (lv 12 46)) 12 47 (lv 12 47)) (u2 (u2 (u2 (u2 (u2 (u2 (u2 (u2 fa 12 39 (fa 12 39)) 12 40 (fa 12 40)) 12 68 (fa 12 68)) 12 69 (fa 12 69)) 12 71 (fa 12 71)) 12 72 (fa 12 72)) 12 73 (fa 12 73)) 12 74 (fa 12 74)) (u2 (u2 (u2 la 12 42 (la 12 42)) 12 43 (la 12 43)) 12 70 (la 12 70))) H := hP
              have hD9 : va_D A (WM h g ca (u2 (u2 (u2 iv 12 19 (iv 12 19)) 12 41 (iv 12 41)) 12 67 (iv 12 67)) (u2 (u2 (u2 (u2 (u2 (u2 lv 12 17 (lv 12 17)) 12 18 (lv 12 18)) 12 44 (lv 12 44)) 12 45 (lv 12 45)) 12 46 (lv 12 46)) 12 47 (lv 12 47)) (u2 (u2 (u2 (u2 (u2 (u2 (u2 (u2 fa 12 39 (fa 12 39)) 12 40 (fa 12 40)) 12 68 (fa 12 68)) 12 69 (fa 12 69)) 12 71 (fa 12 71)) 12 72 (fa 12 72)) 12 73 (fa 12 73)) 12 74 (fa 12 74)) (u2 (u2 (u2 la 12 42 (la 12 42)) 12 43 (la 12 43)) 12 70 (la 12 70))) := hD
              exact W.iret (v := (-100003)) hx hb hr (fun t ht9 hW => ⟨⟨(-100003), ((u2 (u2 (u2 iv 12 19 (iv 12 19)) 12 41 (iv 12 41)) 12 67 (iv 12 67)), (u2 (u2 (u2 (u2 (u2 (u2 lv 12 17 (lv 12 17)) 12 18 (lv 12 18)) 12 44 (lv 12 44)) 12 45 (lv 12 45)) 12 46 (lv 12 46)) 12 47 (lv 12 47)), (u2 (u2 (u2 (u2 (u2 (u2 (u2 (u2 fa 12 39 (fa 12 39)) 12 40 (fa 12 40)) 12 68 (fa 12 68)) 12 69 (fa 12 69)) 12 71 (fa 12 71)) 12 72 (fa 12 72)) 12 73 (fa 12 73)) 12 74 (fa 12 74)), (u2 (u2 (u2 la 12 42 (la 12 42)) 12 43 (la 12 43)) 12 70 (la 12 70))), rfl, ⟨(fa 12 39), (fa 12 40), (fa 12 68), (fa 12 69), (fa 12 71), (fa 12 72), (fa 12 73), (fa 12 74), (la 12 42), (la 12 43), (la 12 70), (iv 12 19), (iv 12 41), (iv 12 67), (lv 12 17), (lv 12 18), (lv 12 44), (lv 12 45), (lv 12 46), (lv 12 47), (hI.2 12 39), (hI.2 12 40), (hI.2 12 71), (hI.1 12 41), (hI.1 12 67), (show ((((-100003) : Int32).toInt = -100001 ∧ ¬ (0 ≤ (a).toInt ∧ (a).toInt < (iv 12 1).toInt) ∧ SmY (fa 12 68) (fa 12 69) (la 12 70) (fa 12 71) (fa 12 72) (fa 12 73) (fa 12 68) (fa 12 69) (la 12 70) (fa 12 71) (fa 12 72) (fa 12 73) ∧ ((iv 12 67) : Int32).toInt = (iv 12 67).toInt) ∨ (((-100003) : Int32).toInt = -100003 ∧ (0 ≤ (a).toInt ∧ (a).toInt < (iv 12 1).toInt) ∧ (CeY (iv 12 67).toInt (fa 12 68) (fa 12 69) (fa 12 73) (a).toInt ∨ ∃ (D R : Nat → Int64) (up dn ro : Int), LwT (fun q v => FoY (iv 12 23).toInt (fa 12 24) (fa 12 25) (fa 12 26) (fa 12 27) (fa 12 28) q (iv 12 0).toInt v) (fa 12 4) (fa 12 5) (fa 12 11) (fa 12 12) (fa 12 7) (fa 12 8) (a).toInt (iv 12 0).toInt ((iv 12 3).toInt).toNat D R up dn ro ∧ ro ≠ 1) ∧ SmY (fa 12 68) (fa 12 69) (la 12 70) (fa 12 71) (fa 12 72) (fa 12 73) (fa 12 68) (fa 12 69) (la 12 70) (fa 12 71) (fa 12 72) (fa 12 73) ∧ ((iv 12 67) : Int32).toInt = (iv 12 67).toInt) ∨ (((-100003) : Int32).toInt = -100004 ∧ (0 ≤ (a).toInt ∧ (a).toInt < (iv 12 1).toInt) ∧ ¬ CeY (iv 12 67).toInt (fa 12 68) (fa 12 69) (fa 12 73) (a).toInt ∧ (∃ (D R : Nat → Int64) (up dn ro : Int), LwT (fun q v => FoY (iv 12 23).toInt (fa 12 24) (fa 12 25) (fa 12 26) (fa 12 27) (fa 12 28) q (iv 12 0).toInt v) (fa 12 4) (fa 12 5) (fa 12 11) (fa 12 12) (fa 12 7) (fa 12 8) (a).toInt (iv 12 0).toInt ((iv 12 3).toInt).toNat D R up dn ro ∧ ro = 1) ∧ 40 ≤ (iv 12 67).toInt ∧ SmY (fa 12 68) (fa 12 69) (la 12 70) (fa 12 71) (fa 12 72) (fa 12 73) (fa 12 68) (fa 12 69) (la 12 70) (fa 12 71) (fa 12 72) (fa 12 73) ∧ ((iv 12 67) : Int32).toInt = (iv 12 67).toInt) ∨ ((0 ≤ (a).toInt ∧ (a).toInt < (iv 12 1).toInt) ∧ ¬ CeY (iv 12 67).toInt (fa 12 68) (fa 12 69) (fa 12 73) (a).toInt ∧ (iv 12 67).toInt < 40 ∧ ((-100003) : Int32).toInt = (iv 12 67).toInt ∧ ((iv 12 67) : Int32).toInt = (iv 12 67).toInt + 1 ∧ ∃ (D R : Nat → Int64) (up dn ro : Int), LwT (fun q v => FoY (iv 12 23).toInt (fa 12 24) (fa 12 25) (fa 12 26) (fa 12 27) (fa 12 28) q (iv 12 0).toInt v) (fa 12 4) (fa 12 5) (fa 12 11) (fa 12 12) (fa 12 7) (fa 12 8) (a).toInt (iv 12 0).toInt ((iv 12 3).toInt).toNat D R up dn ro ∧ ro = 1 ∧ ∃ wt LU LD : Int, FoY (iv 12 23).toInt (fa 12 24) (fa 12 25) (fa 12 26) (fa 12 27) (fa 12 28) 0 (iv 12 0).toInt wt ∧ 0 ≤ wt ∧ LwY up dn (((fa 12 2) ((a).toInt).toNat).toInt * (1000 + wt)) LU LD ∧ ApY ((iv 12 67).toInt).toNat (fa 12 68) (fa 12 69) (la 12 70) (fa 12 71) (fa 12 72) (fa 12 73) (fa 12 68) (fa 12 69) (la 12 70) (fa 12 71) (fa 12 72) (fa 12 73) 0 (a).toInt (LU / LD) (-1) (iv 12 0).toInt)) from (by
                    rcases hq936_0 with ⟨q1, p, q2, q3⟩ | ⟨q1, q2⟩
                    · exact Or.inr (Or.inl ⟨by omega, ⟨by omega, by omega⟩, Or.inl ⟨p, by omega, q3.1, q3.2.1, q3.2.2⟩, (fun j => ⟨rfl, rfl, rfl, rfl, rfl, rfl⟩), by omega⟩)
                    · exfalso; omega)), ⟨by decide, by decide⟩, rfl⟩, by rw [ht9]; exact hP9, hD9⟩, hS.F ht9⟩) hS.2.2 dX12_certify_86
            · have fc938 := z_eq (rfl : (x935_2).toInt = _) (by decide : (0 : Int32).toInt = 0) c938
              refine lv_aload_n hx hb dX12_certify_71 rfl (lv_at hl 2 rfl) ?_
              refine lv_iload_n hx hb dX12_certify_72 rfl (lv_at hl 3 rfl) ?_
              refine lv_aload_n hx hb dX12_certify_73 rfl (lv_at hl 2 rfl) ?_
              have i_12_0 : 0 ≤ (iv 12 0).toInt ∧ (iv 12 0).toInt ≤ 3000 := hI.1 12 0
              refine gM_12_0 hx hb ht hown hK hP m_1139 (v := (iv 12 0)) rfl dX12_certify_74 ?_
              have i_12_23 : 0 ≤ (iv 12 23).toInt ∧ (iv 12 23).toInt ≤ 8 := hI.1 12 23
              have i_12_3 : 0 ≤ (iv 12 3).toInt ∧ (iv 12 3).toInt ≤ 60 := hI.1 12 3
              have hFc := free_all hD hS hA
              refine va_calli (va_runV (As := [.int a, .int (iv 12 0)]) (rest := []) ⟨hx, hb, hml, hown, ht⟩ (c_X12_stateOf_w l dC dI H.size h g ca iv lv fa la hI a (iv 12 0) hJC hJR hJO hJK) (kV 2 ht m_1532 m_1534 m_58 m_89 m_1535 rfl rfl hd_X12_stateOf_v ⟨Nat.le_of_ble_eq_true rfl, Nat.le_of_ble_eq_true rfl⟩) (vW hP hK hD (rM_12 hK hP)) rfl rfl hl.1 rfl (lv_room (Nat.le_of_ble_eq_true rfl)) dX12_certify_77 ⟨Nat.le_of_ble_eq_true rfl, Nat.le_of_ble_eq_true rfl⟩) hS (fun q _ h => hFc q h) hFc (fun r939 u t H1 locs ht9 hvm hr939 hB hz1 hk1 hS => ?_)
              obtain ⟨n940, n941, n942, n943, n944, n945, n946, n947, n948, n949, hn940, hn941, hn945, xr939_0, hr939, rfl⟩ := hr939
              have hn945 : 0 ≤ n945.toInt ∧ n945.toInt ≤ 8 := hn945
              obtain ⟨hP, hD⟩ := hB
              rw [ht9] at hP
              generalize H1 = H at hP hS ⊢
              have hP : va_P (dC, dI) classes (WM h g ca (u2 (u2 iv 12 19 n944) 12 41 n945) (u2 (u2 (u2 (u2 lv 12 17 n946) 12 18 n947) 12 44 n948) 12 45 n949) (u2 (u2 fa 12 39 n940) 12 40 n941) (u2 (u2 la 12 42 n942) 12 43 n943)) H := hP
              have hD : va_D A (WM h g ca (u2 (u2 iv 12 19 n944) 12 41 n945) (u2 (u2 (u2 (u2 lv 12 17 n946) 12 18 n947) 12 44 n948) 12 45 n949) (u2 (u2 fa 12 39 n940) 12 40 n941) (u2 (u2 la 12 42 n942) 12 43 n943)) := (show va_D _ (WM h g ca (u2 (u2 iv 12 19 n944) 12 41 n945) (u2 (u2 (u2 (u2 lv 12 17 n946) 12 18 n947) 12 44 n948) 12 45 n949) (u2 (u2 fa 12 39 n940) 12 40 n941) (u2 (u2 la 12 42 n942) 12 43 n943)) from hD).weaken (fun _ _ _ h => hFc _ h)
              have xr939_0 : LwT (fun q v => FoY ((iv 12 23) : Int32).toInt (fa 12 24) (fa 12 25) (fa 12 26) (fa 12 27) (fa 12 28) q ((iv 12 0) : Int32).toInt v) (fa 12 4) (fa 12 5) (fa 12 11) (fa 12 12) (fa 12 7) (fa 12 8) (a : Int32).toInt ((iv 12 0) : Int32).toInt (((iv 12 3) : Int32).toInt).toNat n942 n943 (n948 : Int64).toInt (n949 : Int64).toInt (r939 : Int32).toInt := xr939_0
              refine lv_iconst (v := 1) hx hb dX12_certify_80 (by decide) ?_
              refine lv_icmp_eq (tgt := 87) hx hb dX12_certify_81 (by decide) (fun c950 => ?_) (fun c950 => ?_)
              · have fc950 := z_eq (rfl : (r939).toInt = _) (by decide : (1 : Int32).toInt = 1) c950
                have hb9 := LwT_b (F := (fun q v => FoY (iv 12 23).toInt (fa 12 24) (fa 12 25) (fa 12 26) (fa 12 27) (fa 12 28) q (iv 12 0).toInt v)) (fun v hv => f1_of (hJH 1 _ v (by decide) (by decide) hv)) (show (iv 12 3).toInt.toNat ≤ 60 from by have q9 : 0 ≤ (iv 12 3).toInt ∧ (iv 12 3).toInt ≤ 60 := hI.1 12 3; omega) (fun s hs => hJD s (by omega)) (hJN a) xr939_0 (by omega)
                obtain ⟨hb1, hb2, hb3, hb4⟩ := hb9
                refine lv_aload_n hx hb dX12_certify_87 rfl (lv_at hl 2 rfl) ?_
                refine gM_12_67 hx hb ht hown hK hP m_1206 (v := (iv 12 67)) rfl dX12_certify_88 ?_
                refine lv_bipush (v := 40) hx hb dX12_certify_91 (by decide) ?_
                refine lv_icmp_ne (tgt := 99) hx hb dX12_certify_93 (by decide) (fun c951 => ?_) (fun c951 => ?_)
                · have fc951 := z_ne (rfl : ((iv 12 67)).toInt = _) (by decide : (40 : Int32).toInt = 40) c951
                  refine lv_aload_n hx hb dX12_certify_99 rfl (lv_at hl 2 rfl) ?_
                  refine lv_iload_n hx hb dX12_certify_100 rfl (lv_at hl 3 rfl) ?_
                  refine lv_aload_n hx hb dX12_certify_101 rfl (lv_at hl 2 rfl) ?_
                  refine gM_12_44 hx hb ht hown hK hP m_1183 (v := n948) rfl dX12_certify_102 ?_
                  refine lv_aload_n hx hb dX12_certify_105 rfl (lv_at hl 2 rfl) ?_
                  refine gM_12_45 hx hb ht hown hK hP m_1184 (v := n949) rfl dX12_certify_106 ?_
                  refine lv_aload_n hx hb dX12_certify_109 rfl (lv_at hl 2 rfl) ?_
                  refine gM_12_0 hx hb ht hown hK hP m_1139 (v := (iv 12 0)) rfl dX12_certify_110 ?_
                  have hFc := free_all hD hS hA
                  refine va_callv (va_runV (As := [.int a, .long n948, .long n949, .int (iv 12 0)]) (rest := []) ⟨hx, hb, hml, hown, ht⟩ (c_X12_findLawful_w l dC dI H.size h g ca (u2 (u2 iv 12 19 n944) 12 41 n945) (u2 (u2 (u2 (u2 lv 12 17 n946) 12 18 n947) 12 44 n948) 12 45 n949) (u2 (u2 fa 12 39 n940) 12 40 n941) (u2 (u2 la 12 42 n942) 12 43 n943) (IX_a (c := 12) (k := 40) (IX_a (c := 12) (k := 39) (IX_i (c := 12) (k := 41) (IX_i (c := 12) (k := 19) hI (full_i _)) (show inb (0, 8) n945 from ⟨by omega, by omega⟩)) hn940) hn941) a n948 n949 (iv 12 0) ⟨by omega, by omega⟩ ⟨by omega, by omega⟩ ⟨by omega, by omega⟩ (show (a : Int32).toInt < ((iv 12 1) : Int32).toInt from by omega) hJC hJK hJH hJI) (kV 4 ht m_1563 m_1565 m_63 m_89 m_1566 rfl rfl hd_X12_findLawful_v ⟨Nat.le_of_ble_eq_true rfl, Nat.le_of_ble_eq_true rfl⟩) (vW hP hK hD (rM_12 hK hP)) rfl rfl hl.1 rfl (lv_room (Nat.le_of_ble_eq_true rfl)) dX12_certify_113 ⟨Nat.le_of_ble_eq_true rfl, Nat.le_of_ble_eq_true rfl⟩) hS (fun q _ h => hFc q h) hFc (fun u t H1 locs ht9 hvm hr952 hB hz1 hk1 hS => ?_)
                  obtain ⟨n953, n954, n955, n956, n957, hn953, hn954, hn955, xr952_0, rfl⟩ := hr952
                  have hn955 : 0 ≤ n955.toInt ∧ n955.toInt ≤ 8 := hn955
                  obtain ⟨hP, hD⟩ := hB
                  rw [ht9] at hP
                  generalize H1 = H at hP hS ⊢
                  have hP : va_P (dC, dI) classes (WM h g ca (u2 (u2 iv 12 19 n944) 12 41 n955) (u2 (u2 (u2 (u2 (u2 (u2 lv 12 17 n946) 12 18 n947) 12 44 n948) 12 45 n949) 12 46 n956) 12 47 n957) (u2 (u2 fa 12 39 n953) 12 40 n954) (u2 (u2 la 12 42 n942) 12 43 n943)) H := hP
                  have hD : va_D A (WM h g ca (u2 (u2 iv 12 19 n944) 12 41 n955) (u2 (u2 (u2 (u2 (u2 (u2 lv 12 17 n946) 12 18 n947) 12 44 n948) 12 45 n949) 12 46 n956) 12 47 n957) (u2 (u2 fa 12 39 n953) 12 40 n954) (u2 (u2 la 12 42 n942) 12 43 n943)) := (show va_D _ (WM h g ca (u2 (u2 iv 12 19 n944) 12 41 n955) (u2 (u2 (u2 (u2 (u2 (u2 lv 12 17 n946) 12 18 n947) 12 44 n948) 12 45 n949) 12 46 n956) 12 47 n957) (u2 (u2 fa 12 39 n953) 12 40 n954) (u2 (u2 la 12 42 n942) 12 43 n943)) from hD).weaken (fun _ _ _ h => hFc _ h)
                  have xr952_0 : ∃ wt : Int, FoY ((iv 12 23) : Int32).toInt (fa 12 24) (fa 12 25) (fa 12 26) (fa 12 27) (fa 12 28) 0 ((iv 12 0) : Int32).toInt wt ∧ 0 ≤ wt ∧ wt ≤ 300 ∧ LwY (n948 : Int64).toInt (n949 : Int64).toInt (((fa 12 2) ((a : Int32).toInt).toNat).toInt * (1000 + wt)) (n956 : Int64).toInt (n957 : Int64).toInt := xr952_0
                  refine lv_aload_n hx hb dX12_certify_116 rfl (lv_at hl 2 rfl) ?_
                  refine lv_iconst (v := 0) hx hb dX12_certify_117 (by decide) ?_
                  refine lv_iload_n hx hb dX12_certify_118 rfl (lv_at hl 3 rfl) ?_
                  refine lv_aload_n hx hb dX12_certify_119 rfl (lv_at hl 2 rfl) ?_
                  refine gM_12_46 hx hb ht hown hK hP m_1185 (v := n956) rfl dX12_certify_120 ?_
                  refine lv_aload_n hx hb dX12_certify_123 rfl (lv_at hl 2 rfl) ?_
                  refine gM_12_47 hx hb ht hown hK hP m_1186 (v := n957) rfl dX12_certify_124 ?_
                  obtain ⟨wt9, k1, k2, k3, k4⟩ := xr952_0
                  have k5 := k4.1
                  have k6 := k4.2.1
                  have zw958 : (n957 : Int64).toInt ≠ 0 := by omega
                  refine lv_ldiv hx hb dX12_certify_127 (l_nz rfl zw958) ?_
                  refine lv_topl (fun w958 ew958 => ?_)
                  have hd9 := l_divp ew958 rfl rfl (by omega) (by omega)
                  refine lv_iconst (v := (-1)) hx hb dX12_certify_128 (by decide) ?_
                  refine lv_aload_n hx hb dX12_certify_129 rfl (lv_at hl 2 rfl) ?_
                  refine lv_iconst (v := 4) hx hb dX12_certify_130 (by decide) ?_
                  refine lv_aload_n hx hb dX12_certify_131 rfl (lv_at hl 2 rfl) ?_
                  refine gM_12_0 hx hb ht hown hK hP m_1139 (v := (iv 12 0)) rfl dX12_certify_132 ?_
                  have hFc := free_all hD hS hA
                  refine va_calli (va_runV (As := [.int 4, .int (iv 12 0)]) (rest := [.int (-1), .long w958, .int a, .int 0, .ref h]) ⟨hx, hb, hml, hown, ht⟩ (c_X12_forceOf_f l dC dI H.size h g ca (u2 (u2 iv 12 19 n944) 12 41 n955) (u2 (u2 (u2 (u2 (u2 (u2 lv 12 17 n946) 12 18 n947) 12 44 n948) 12 45 n949) 12 46 n956) 12 47 n957) (u2 (u2 fa 12 39 n953) 12 40 n954) (u2 (u2 la 12 42 n942) 12 43 n943) (IX_a (c := 12) (k := 40) (IX_a (c := 12) (k := 39) (IX_i (c := 12) (k := 41) (IX_i (c := 12) (k := 19) hI (full_i _)) (show inb (0, 8) n955 from ⟨by omega, by omega⟩)) hn953) hn954) 4 (iv 12 0) ⟨by decide, by decide⟩ hJC hJK) (kV 2 ht m_1509 m_1511 m_55 m_89 m_1512 rfl rfl hd_X12_forceOf_v ⟨Nat.le_of_ble_eq_true rfl, Nat.le_of_ble_eq_true rfl⟩) (vW hP hK hD (rM_12 hK hP)) rfl rfl hl.1 rfl (lv_room (Nat.le_of_ble_eq_true rfl)) dX12_certify_135 ⟨Nat.le_of_ble_eq_true rfl, Nat.le_of_ble_eq_true rfl⟩) hS (fun q _ h => hFc q h) hFc (fun r959 u t H1 locs ht9 hvm hr959 hB hz1 hk1 hS => ?_)
                  obtain ⟨n960, n961, n962, hn960, hn961, hn962, xr959_0, hr959, rfl⟩ := hr959
                  have hn962 : 0 ≤ n962.toInt ∧ n962.toInt ≤ 8 := hn962
                  obtain ⟨hP, hD⟩ := hB
                  rw [ht9] at hP
                  generalize H1 = H at hP hS ⊢
                  have hP : va_P (dC, dI) classes (WM h g ca (u2 (u2 iv 12 19 n944) 12 41 n962) (u2 (u2 (u2 (u2 (u2 (u2 lv 12 17 n946) 12 18 n947) 12 44 n948) 12 45 n949) 12 46 n956) 12 47 n957) (u2 (u2 fa 12 39 n960) 12 40 n961) (u2 (u2 la 12 42 n942) 12 43 n943)) H := hP
                  have hD : va_D A (WM h g ca (u2 (u2 iv 12 19 n944) 12 41 n962) (u2 (u2 (u2 (u2 (u2 (u2 lv 12 17 n946) 12 18 n947) 12 44 n948) 12 45 n949) 12 46 n956) 12 47 n957) (u2 (u2 fa 12 39 n960) 12 40 n961) (u2 (u2 la 12 42 n942) 12 43 n943)) := (show va_D _ (WM h g ca (u2 (u2 iv 12 19 n944) 12 41 n962) (u2 (u2 (u2 (u2 (u2 (u2 lv 12 17 n946) 12 18 n947) 12 44 n948) 12 45 n949) 12 46 n956) 12 47 n957) (u2 (u2 fa 12 39 n960) 12 40 n961) (u2 (u2 la 12 42 n942) 12 43 n943)) from hD).weaken (fun _ _ _ h => hFc _ h)
                  have : (4 : Int32).toInt = 4 := (by decide)
                  have xr959_0 : FoY ((iv 12 23) : Int32).toInt (fa 12 24) (fa 12 25) (fa 12 26) (fa 12 27) (fa 12 28) (4 : Int32).toInt ((iv 12 0) : Int32).toInt (r959 : Int32).toInt := xr959_0
                  have hFc := free_all hD hS hA
                  refine va_callv (va_runV (As := [.int 0, .int a, .long w958, .int (-1), .int r959]) (rest := []) ⟨hx, hb, hml, hown, ht⟩ (c_X12_add_w l dC dI H.size h g ca (u2 (u2 iv 12 19 n944) 12 41 n962) (u2 (u2 (u2 (u2 (u2 (u2 lv 12 17 n946) 12 18 n947) 12 44 n948) 12 45 n949) 12 46 n956) 12 47 n957) (u2 (u2 fa 12 39 n960) 12 40 n961) (u2 (u2 la 12 42 n942) 12 43 n943) (IX_a (c := 12) (k := 40) (IX_a (c := 12) (k := 39) (IX_i (c := 12) (k := 41) (IX_i (c := 12) (k := 19) hI (full_i _)) (show inb (0, 8) n962 from ⟨by omega, by omega⟩)) hn960) hn961) 0 a w958 (-1) r959 (show 0 ≤ ((iv 12 67) : Int32).toInt ∧ ((iv 12 67) : Int32).toInt ≤ 39 from ⟨by omega, by omega⟩) ⟨by decide, by decide⟩) (kV 5 ht m_1676 m_1678 m_72 m_89 m_1679 rfl rfl hd_X12_add_v ⟨Nat.le_of_ble_eq_true rfl, Nat.le_of_ble_eq_true rfl⟩) (vW hP hK hD (rM_12 hK hP)) rfl rfl hl.1 rfl (lv_room (Nat.le_of_ble_eq_true rfl)) dX12_certify_138 ⟨Nat.le_of_ble_eq_true rfl, Nat.le_of_ble_eq_true rfl⟩) hS (fun q _ h => hFc q h) hFc (fun u t H1 locs ht9 hvm hr963 hB hz1 hk1 hS => ?_)
                  obtain ⟨n964, n965, n966, n967, n968, n969, n970, n971, hn966, hn971, dn971, xr963_0, rfl⟩ := hr963
                  have hn964 : ∀ j, inb (bA 12 68 j) (n964 j) := fun j => full_i _
                  have hn965 : ∀ j, inb (bA 12 69 j) (n965 j) := fun j => full_i _
                  have hn967 : ∀ j, inb (bA 12 72 j) (n967 j) := fun j => full_i _
                  have hn968 : ∀ j, inb (bA 12 73 j) (n968 j) := fun j => full_i _
                  have hn969 : ∀ j, inb (bA 12 74 j) (n969 j) := fun j => full_i _
                  have dn971 : n971.toInt = ((iv 12 67) : Int32).toInt + 1 := dn971
                  have hn971 : 0 ≤ n971.toInt ∧ n971.toInt ≤ 40 := hn971
                  obtain ⟨hP, hD⟩ := hB
                  rw [ht9] at hP
                  generalize H1 = H at hP hS ⊢
                  have hP : va_P (dC, dI) classes (WM h g ca (u2 (u2 (u2 iv 12 19 n944) 12 41 n962) 12 67 n971) (u2 (u2 (u2 (u2 (u2 (u2 lv 12 17 n946) 12 18 n947) 12 44 n948) 12 45 n949) 12 46 n956) 12 47 n957) (u2 (u2 (u2 (u2 (u2 (u2 (u2 (u2 fa 12 39 n960) 12 40 n961) 12 68 n964) 12 69 n965) 12 71 n966) 12 72 n967) 12 73 n968) 12 74 n969) (u2 (u2 (u2 la 12 42 n942) 12 43 n943) 12 70 n970)) H := hP
                  have hD : va_D A (WM h g ca (u2 (u2 (u2 iv 12 19 n944) 12 41 n962) 12 67 n971) (u2 (u2 (u2 (u2 (u2 (u2 lv 12 17 n946) 12 18 n947) 12 44 n948) 12 45 n949) 12 46 n956) 12 47 n957) (u2 (u2 (u2 (u2 (u2 (u2 (u2 (u2 fa 12 39 n960) 12 40 n961) 12 68 n964) 12 69 n965) 12 71 n966) 12 72 n967) 12 73 n968) 12 74 n969) (u2 (u2 (u2 la 12 42 n942) 12 43 n943) 12 70 n970)) := (show va_D _ (WM h g ca (u2 (u2 (u2 iv 12 19 n944) 12 41 n962) 12 67 n971) (u2 (u2 (u2 (u2 (u2 (u2 lv 12 17 n946) 12 18 n947) 12 44 n948) 12 45 n949) 12 46 n956) 12 47 n957) (u2 (u2 (u2 (u2 (u2 (u2 (u2 (u2 fa 12 39 n960) 12 40 n961) 12 68 n964) 12 69 n965) 12 71 n966) 12 72 n967) 12 73 n968) 12 74 n969) (u2 (u2 (u2 la 12 42 n942) 12 43 n943) 12 70 n970)) from hD).weaken (fun _ _ _ h => hFc _ h)
                  have : (0 : Int32).toInt = 0 := (by decide)
                  have : ((-1) : Int32).toInt = (-1) := (by decide)
                  have xr963_0 : ApY (((iv 12 67) : Int32).toInt).toNat (fa 12 68) (fa 12 69) (la 12 70) (fa 12 71) (fa 12 72) (fa 12 73) n964 n965 n970 n966 n967 n968 (0 : Int32).toInt (a : Int32).toInt (w958 : Int64).toInt ((-1) : Int32).toInt ((iv 12 0) : Int32).toInt := xr963_0
                  refine lv_aload_n hx hb dX12_certify_141 rfl (lv_at hl 2 rfl) ?_
                  refine gM_12_67 hx hb ht hown hK hP m_1206 (v := n971) rfl dX12_certify_142 ?_
                  refine lv_iconst (v := 1) hx hb dX12_certify_145 (by decide) ?_
                  refine lv_isub hx hb dX12_certify_146 ?_
                  refine lv_topi (fun v972 ev972 => ?_)
                  have tv972 := z_sub ev972 (rfl : (n971).toInt = _) (by decide : (1 : Int32).toInt = 1) (by omega) (by omega)
                  have hP9 : va_P (dC, dI) classes (WM h g ca (u2 (u2 (u2 iv 12 19 n944) 12 41 n962) 12 67 n971) (u2 (u2 (u2 (u2 (u2 (u2 lv 12 17 n946) 12 18 n947) 12 44 n948) 12 45 n949) 12 46 n956) 12 47 n957) (u2 (u2 (u2 (u2 (u2 (u2 (u2 (u2 fa 12 39 n960) 12 40 n961) 12 68 n964) 12 69 n965) 12 71 n966) 12 72 n967) 12 73 n968) 12 74 n969) (u2 (u2 (u2 la 12 42 n942) 12 43 n943) 12 70 n970)) H := hP
                  have hD9 : va_D A (WM h g ca (u2 (u2 (u2 iv 12 19 n944) 12 41 n962) 12 67 n971) (u2 (u2 (u2 (u2 (u2 (u2 lv 12 17 n946) 12 18 n947) 12 44 n948) 12 45 n949) 12 46 n956) 12 47 n957) (u2 (u2 (u2 (u2 (u2 (u2 (u2 (u2 fa 12 39 n960) 12 40 n961) 12 68 n964) 12 69 n965) 12 71 n966) 12 72 n967) 12 73 n968) 12 74 n969) (u2 (u2 (u2 la 12 42 n942) 12 43 n943) 12 70 n970)) := hD
                  exact W.iret (v := v972) hx hb hr (fun t ht9 hW => ⟨⟨v972, ((u2 (u2 (u2 iv 12 19 n944) 12 41 n962) 12 67 n971), (u2 (u2 (u2 (u2 (u2 (u2 lv 12 17 n946) 12 18 n947) 12 44 n948) 12 45 n949) 12 46 n956) 12 47 n957), (u2 (u2 (u2 (u2 (u2 (u2 (u2 (u2 fa 12 39 n960) 12 40 n961) 12 68 n964) 12 69 n965) 12 71 n966) 12 72 n967) 12 73 n968) 12 74 n969), (u2 (u2 (u2 la 12 42 n942) 12 43 n943) 12 70 n970)), rfl, ⟨n960, n961, n964, n965, n966, n967, n968, n969, n942, n943, n970, n944, n962, n971, n946, n947, n948, n949, n956, n957, hn960, hn961, hn966, (show inb (0, 8) n962 from ⟨by omega, by omega⟩), (show inb (0, 40) n971 from ⟨by omega, by omega⟩), (show (((v972 : Int32).toInt = -100001 ∧ ¬ (0 ≤ (a).toInt ∧ (a).toInt < (iv 12 1).toInt) ∧ SmY (fa 12 68) (fa 12 69) (la 12 70) (fa 12 71) (fa 12 72) (fa 12 73) n964 n965 n970 n966 n967 n968 ∧ (n971 : Int32).toInt = (iv 12 67).toInt) ∨ ((v972 : Int32).toInt = -100003 ∧ (0 ≤ (a).toInt ∧ (a).toInt < (iv 12 1).toInt) ∧ (CeY (iv 12 67).toInt (fa 12 68) (fa 12 69) (fa 12 73) (a).toInt ∨ ∃ (D R : Nat → Int64) (up dn ro : Int), LwT (fun q v => FoY (iv 12 23).toInt (fa 12 24) (fa 12 25) (fa 12 26) (fa 12 27) (fa 12 28) q (iv 12 0).toInt v) (fa 12 4) (fa 12 5) (fa 12 11) (fa 12 12) (fa 12 7) (fa 12 8) (a).toInt (iv 12 0).toInt ((iv 12 3).toInt).toNat D R up dn ro ∧ ro ≠ 1) ∧ SmY (fa 12 68) (fa 12 69) (la 12 70) (fa 12 71) (fa 12 72) (fa 12 73) n964 n965 n970 n966 n967 n968 ∧ (n971 : Int32).toInt = (iv 12 67).toInt) ∨ ((v972 : Int32).toInt = -100004 ∧ (0 ≤ (a).toInt ∧ (a).toInt < (iv 12 1).toInt) ∧ ¬ CeY (iv 12 67).toInt (fa 12 68) (fa 12 69) (fa 12 73) (a).toInt ∧ (∃ (D R : Nat → Int64) (up dn ro : Int), LwT (fun q v => FoY (iv 12 23).toInt (fa 12 24) (fa 12 25) (fa 12 26) (fa 12 27) (fa 12 28) q (iv 12 0).toInt v) (fa 12 4) (fa 12 5) (fa 12 11) (fa 12 12) (fa 12 7) (fa 12 8) (a).toInt (iv 12 0).toInt ((iv 12 3).toInt).toNat D R up dn ro ∧ ro = 1) ∧ 40 ≤ (iv 12 67).toInt ∧ SmY (fa 12 68) (fa 12 69) (la 12 70) (fa 12 71) (fa 12 72) (fa 12 73) n964 n965 n970 n966 n967 n968 ∧ (n971 : Int32).toInt = (iv 12 67).toInt) ∨ ((0 ≤ (a).toInt ∧ (a).toInt < (iv 12 1).toInt) ∧ ¬ CeY (iv 12 67).toInt (fa 12 68) (fa 12 69) (fa 12 73) (a).toInt ∧ (iv 12 67).toInt < 40 ∧ (v972 : Int32).toInt = (iv 12 67).toInt ∧ (n971 : Int32).toInt = (iv 12 67).toInt + 1 ∧ ∃ (D R : Nat → Int64) (up dn ro : Int), LwT (fun q v => FoY (iv 12 23).toInt (fa 12 24) (fa 12 25) (fa 12 26) (fa 12 27) (fa 12 28) q (iv 12 0).toInt v) (fa 12 4) (fa 12 5) (fa 12 11) (fa 12 12) (fa 12 7) (fa 12 8) (a).toInt (iv 12 0).toInt ((iv 12 3).toInt).toNat D R up dn ro ∧ ro = 1 ∧ ∃ wt LU LD : Int, FoY (iv 12 23).toInt (fa 12 24) (fa 12 25) (fa 12 26) (fa 12 27) (fa 12 28) 0 (iv 12 0).toInt wt ∧ 0 ≤ wt ∧ LwY up dn (((fa 12 2) ((a).toInt).toNat).toInt * (1000 + wt)) LU LD ∧ ApY ((iv 12 67).toInt).toNat (fa 12 68) (fa 12 69) (la 12 70) (fa 12 71) (fa 12 72) (fa 12 73) n964 n965 n970 n966 n967 n968 0 (a).toInt (LU / LD) (-1) (iv 12 0).toInt)) from (by have hx9 := xr963_0; rw [hd9, show (0 : Int32).toInt = 0 from by decide, show (-1 : Int32).toInt = -1 from by decide] at hx9; exact Or.inr (Or.inr (Or.inr ⟨⟨by omega, by omega⟩, (by
                        rcases hq936_0 with ⟨q1, p, q2, q3⟩ | ⟨q1, q2⟩
                        · exfalso; omega
                        · exact fun ⟨p, z1, z2, z3, z4⟩ => q2 p (by omega) ⟨z2, z3, z4⟩), by omega, by omega, by omega, ⟨n942, n943, (n948 : Int64).toInt, (n949 : Int64).toInt, _, xr939_0, by omega, wt9, _, _, k1, k2, k4, hx9⟩⟩)))), ⟨by omega, by omega⟩, rfl⟩, by rw [ht9]; exact hP9, hD9⟩, hS.F ht9⟩) hS.2.2 dX12_certify_147
                · have fc951 := z_eq (rfl : ((iv 12 67)).toInt = _) (by decide : (40 : Int32).toInt = 40) c951
                  refine lv_ldc hx hb hown (ht _ m_1380) dX12_certify_96 ?_
                  have : ((-100004) : Int32).toInt = (-100004) := (by decide)
                  have hP9 : va_P (dC, dI) classes (WM h g ca (u2 (u2 (u2 iv 12 19 n944) 12 41 n945) 12 67 (iv 12 67)) (u2 (u2 (u2 (u2 (u2 (u2 lv 12 17 n946) 12 18 n947) 12 44 n948) 12 45 n949) 12 46 (lv 12 46)) 12 47 (lv 12 47)) (u2 (u2 (u2 (u2 (u2 (u2 (u2 (u2 fa 12 39 n940) 12 40 n941) 12 68 (fa 12 68)) 12 69 (fa 12 69)) 12 71 (fa 12 71)) 12 72 (fa 12 72)) 12 73 (fa 12 73)) 12 74 (fa 12 74)) (u2 (u2 (u2 la 12 42 n942) 12 43 n943) 12 70 (la 12 70))) H := hP
                  have hD9 : va_D A (WM h g ca (u2 (u2 (u2 iv 12 19 n944) 12 41 n945) 12 67 (iv 12 67)) (u2 (u2 (u2 (u2 (u2 (u2 lv 12 17 n946) 12 18 n947) 12 44 n948) 12 45 n949) 12 46 (lv 12 46)) 12 47 (lv 12 47)) (u2 (u2 (u2 (u2 (u2 (u2 (u2 (u2 fa 12 39 n940) 12 40 n941) 12 68 (fa 12 68)) 12 69 (fa 12 69)) 12 71 (fa 12 71)) 12 72 (fa 12 72)) 12 73 (fa 12 73)) 12 74 (fa 12 74)) (u2 (u2 (u2 la 12 42 n942) 12 43 n943) 12 70 (la 12 70))) := hD
                  exact W.iret (v := (-100004)) hx hb hr (fun t ht9 hW => ⟨⟨(-100004), ((u2 (u2 (u2 iv 12 19 n944) 12 41 n945) 12 67 (iv 12 67)), (u2 (u2 (u2 (u2 (u2 (u2 lv 12 17 n946) 12 18 n947) 12 44 n948) 12 45 n949) 12 46 (lv 12 46)) 12 47 (lv 12 47)), (u2 (u2 (u2 (u2 (u2 (u2 (u2 (u2 fa 12 39 n940) 12 40 n941) 12 68 (fa 12 68)) 12 69 (fa 12 69)) 12 71 (fa 12 71)) 12 72 (fa 12 72)) 12 73 (fa 12 73)) 12 74 (fa 12 74)), (u2 (u2 (u2 la 12 42 n942) 12 43 n943) 12 70 (la 12 70))), rfl, ⟨n940, n941, (fa 12 68), (fa 12 69), (fa 12 71), (fa 12 72), (fa 12 73), (fa 12 74), n942, n943, (la 12 70), n944, n945, (iv 12 67), n946, n947, n948, n949, (lv 12 46), (lv 12 47), hn940, hn941, (hI.2 12 71), (show inb (0, 8) n945 from ⟨by omega, by omega⟩), (hI.1 12 67), (show ((((-100004) : Int32).toInt = -100001 ∧ ¬ (0 ≤ (a).toInt ∧ (a).toInt < (iv 12 1).toInt) ∧ SmY (fa 12 68) (fa 12 69) (la 12 70) (fa 12 71) (fa 12 72) (fa 12 73) (fa 12 68) (fa 12 69) (la 12 70) (fa 12 71) (fa 12 72) (fa 12 73) ∧ ((iv 12 67) : Int32).toInt = (iv 12 67).toInt) ∨ (((-100004) : Int32).toInt = -100003 ∧ (0 ≤ (a).toInt ∧ (a).toInt < (iv 12 1).toInt) ∧ (CeY (iv 12 67).toInt (fa 12 68) (fa 12 69) (fa 12 73) (a).toInt ∨ ∃ (D R : Nat → Int64) (up dn ro : Int), LwT (fun q v => FoY (iv 12 23).toInt (fa 12 24) (fa 12 25) (fa 12 26) (fa 12 27) (fa 12 28) q (iv 12 0).toInt v) (fa 12 4) (fa 12 5) (fa 12 11) (fa 12 12) (fa 12 7) (fa 12 8) (a).toInt (iv 12 0).toInt ((iv 12 3).toInt).toNat D R up dn ro ∧ ro ≠ 1) ∧ SmY (fa 12 68) (fa 12 69) (la 12 70) (fa 12 71) (fa 12 72) (fa 12 73) (fa 12 68) (fa 12 69) (la 12 70) (fa 12 71) (fa 12 72) (fa 12 73) ∧ ((iv 12 67) : Int32).toInt = (iv 12 67).toInt) ∨ (((-100004) : Int32).toInt = -100004 ∧ (0 ≤ (a).toInt ∧ (a).toInt < (iv 12 1).toInt) ∧ ¬ CeY (iv 12 67).toInt (fa 12 68) (fa 12 69) (fa 12 73) (a).toInt ∧ (∃ (D R : Nat → Int64) (up dn ro : Int), LwT (fun q v => FoY (iv 12 23).toInt (fa 12 24) (fa 12 25) (fa 12 26) (fa 12 27) (fa 12 28) q (iv 12 0).toInt v) (fa 12 4) (fa 12 5) (fa 12 11) (fa 12 12) (fa 12 7) (fa 12 8) (a).toInt (iv 12 0).toInt ((iv 12 3).toInt).toNat D R up dn ro ∧ ro = 1) ∧ 40 ≤ (iv 12 67).toInt ∧ SmY (fa 12 68) (fa 12 69) (la 12 70) (fa 12 71) (fa 12 72) (fa 12 73) (fa 12 68) (fa 12 69) (la 12 70) (fa 12 71) (fa 12 72) (fa 12 73) ∧ ((iv 12 67) : Int32).toInt = (iv 12 67).toInt) ∨ ((0 ≤ (a).toInt ∧ (a).toInt < (iv 12 1).toInt) ∧ ¬ CeY (iv 12 67).toInt (fa 12 68) (fa 12 69) (fa 12 73) (a).toInt ∧ (iv 12 67).toInt < 40 ∧ ((-100004) : Int32).toInt = (iv 12 67).toInt ∧ ((iv 12 67) : Int32).toInt = (iv 12 67).toInt + 1 ∧ ∃ (D R : Nat → Int64) (up dn ro : Int), LwT (fun q v => FoY (iv 12 23).toInt (fa 12 24) (fa 12 25) (fa 12 26) (fa 12 27) (fa 12 28) q (iv 12 0).toInt v) (fa 12 4) (fa 12 5) (fa 12 11) (fa 12 12) (fa 12 7) (fa 12 8) (a).toInt (iv 12 0).toInt ((iv 12 3).toInt).toNat D R up dn ro ∧ ro = 1 ∧ ∃ wt LU LD : Int, FoY (iv 12 23).toInt (fa 12 24) (fa 12 25) (fa 12 26) (fa 12 27) (fa 12 28) 0 (iv 12 0).toInt wt ∧ 0 ≤ wt ∧ LwY up dn (((fa 12 2) ((a).toInt).toNat).toInt * (1000 + wt)) LU LD ∧ ApY ((iv 12 67).toInt).toNat (fa 12 68) (fa 12 69) (la 12 70) (fa 12 71) (fa 12 72) (fa 12 73) (fa 12 68) (fa 12 69) (la 12 70) (fa 12 71) (fa 12 72) (fa 12 73) 0 (a).toInt (LU / LD) (-1) (iv 12 0).toInt)) from Or.inr (Or.inr (Or.inl ⟨by omega, ⟨by omega, by omega⟩, (by
                        rcases hq936_0 with ⟨q1, p, q2, q3⟩ | ⟨q1, q2⟩
                        · exfalso; omega
                        · exact fun ⟨p, z1, z2, z3, z4⟩ => q2 p (by omega) ⟨z2, z3, z4⟩), ⟨n942, n943, (n948 : Int64).toInt, (n949 : Int64).toInt, _, xr939_0, by omega⟩, by omega, (fun j => ⟨rfl, rfl, rfl, rfl, rfl, rfl⟩), by omega⟩))), ⟨by decide, by decide⟩, rfl⟩, by rw [ht9]; exact hP9, hD9⟩, hS.F ht9⟩) hS.2.2 dX12_certify_98
              · have fc950 := z_ne (rfl : (r939).toInt = _) (by decide : (1 : Int32).toInt = 1) c950
                refine lv_ldc hx hb hown (ht _ m_1374) dX12_certify_84 ?_
                have : ((-100003) : Int32).toInt = (-100003) := (by decide)
                have hP9 : va_P (dC, dI) classes (WM h g ca (u2 (u2 (u2 iv 12 19 n944) 12 41 n945) 12 67 (iv 12 67)) (u2 (u2 (u2 (u2 (u2 (u2 lv 12 17 n946) 12 18 n947) 12 44 n948) 12 45 n949) 12 46 (lv 12 46)) 12 47 (lv 12 47)) (u2 (u2 (u2 (u2 (u2 (u2 (u2 (u2 fa 12 39 n940) 12 40 n941) 12 68 (fa 12 68)) 12 69 (fa 12 69)) 12 71 (fa 12 71)) 12 72 (fa 12 72)) 12 73 (fa 12 73)) 12 74 (fa 12 74)) (u2 (u2 (u2 la 12 42 n942) 12 43 n943) 12 70 (la 12 70))) H := hP
                have hD9 : va_D A (WM h g ca (u2 (u2 (u2 iv 12 19 n944) 12 41 n945) 12 67 (iv 12 67)) (u2 (u2 (u2 (u2 (u2 (u2 lv 12 17 n946) 12 18 n947) 12 44 n948) 12 45 n949) 12 46 (lv 12 46)) 12 47 (lv 12 47)) (u2 (u2 (u2 (u2 (u2 (u2 (u2 (u2 fa 12 39 n940) 12 40 n941) 12 68 (fa 12 68)) 12 69 (fa 12 69)) 12 71 (fa 12 71)) 12 72 (fa 12 72)) 12 73 (fa 12 73)) 12 74 (fa 12 74)) (u2 (u2 (u2 la 12 42 n942) 12 43 n943) 12 70 (la 12 70))) := hD
                exact W.iret (v := (-100003)) hx hb hr (fun t ht9 hW => ⟨⟨(-100003), ((u2 (u2 (u2 iv 12 19 n944) 12 41 n945) 12 67 (iv 12 67)), (u2 (u2 (u2 (u2 (u2 (u2 lv 12 17 n946) 12 18 n947) 12 44 n948) 12 45 n949) 12 46 (lv 12 46)) 12 47 (lv 12 47)), (u2 (u2 (u2 (u2 (u2 (u2 (u2 (u2 fa 12 39 n940) 12 40 n941) 12 68 (fa 12 68)) 12 69 (fa 12 69)) 12 71 (fa 12 71)) 12 72 (fa 12 72)) 12 73 (fa 12 73)) 12 74 (fa 12 74)), (u2 (u2 (u2 la 12 42 n942) 12 43 n943) 12 70 (la 12 70))), rfl, ⟨n940, n941, (fa 12 68), (fa 12 69), (fa 12 71), (fa 12 72), (fa 12 73), (fa 12 74), n942, n943, (la 12 70), n944, n945, (iv 12 67), n946, n947, n948, n949, (lv 12 46), (lv 12 47), hn940, hn941, (hI.2 12 71), (show inb (0, 8) n945 from ⟨by omega, by omega⟩), (hI.1 12 67), (show ((((-100003) : Int32).toInt = -100001 ∧ ¬ (0 ≤ (a).toInt ∧ (a).toInt < (iv 12 1).toInt) ∧ SmY (fa 12 68) (fa 12 69) (la 12 70) (fa 12 71) (fa 12 72) (fa 12 73) (fa 12 68) (fa 12 69) (la 12 70) (fa 12 71) (fa 12 72) (fa 12 73) ∧ ((iv 12 67) : Int32).toInt = (iv 12 67).toInt) ∨ (((-100003) : Int32).toInt = -100003 ∧ (0 ≤ (a).toInt ∧ (a).toInt < (iv 12 1).toInt) ∧ (CeY (iv 12 67).toInt (fa 12 68) (fa 12 69) (fa 12 73) (a).toInt ∨ ∃ (D R : Nat → Int64) (up dn ro : Int), LwT (fun q v => FoY (iv 12 23).toInt (fa 12 24) (fa 12 25) (fa 12 26) (fa 12 27) (fa 12 28) q (iv 12 0).toInt v) (fa 12 4) (fa 12 5) (fa 12 11) (fa 12 12) (fa 12 7) (fa 12 8) (a).toInt (iv 12 0).toInt ((iv 12 3).toInt).toNat D R up dn ro ∧ ro ≠ 1) ∧ SmY (fa 12 68) (fa 12 69) (la 12 70) (fa 12 71) (fa 12 72) (fa 12 73) (fa 12 68) (fa 12 69) (la 12 70) (fa 12 71) (fa 12 72) (fa 12 73) ∧ ((iv 12 67) : Int32).toInt = (iv 12 67).toInt) ∨ (((-100003) : Int32).toInt = -100004 ∧ (0 ≤ (a).toInt ∧ (a).toInt < (iv 12 1).toInt) ∧ ¬ CeY (iv 12 67).toInt (fa 12 68) (fa 12 69) (fa 12 73) (a).toInt ∧ (∃ (D R : Nat → Int64) (up dn ro : Int), LwT (fun q v => FoY (iv 12 23).toInt (fa 12 24) (fa 12 25) (fa 12 26) (fa 12 27) (fa 12 28) q (iv 12 0).toInt v) (fa 12 4) (fa 12 5) (fa 12 11) (fa 12 12) (fa 12 7) (fa 12 8) (a).toInt (iv 12 0).toInt ((iv 12 3).toInt).toNat D R up dn ro ∧ ro = 1) ∧ 40 ≤ (iv 12 67).toInt ∧ SmY (fa 12 68) (fa 12 69) (la 12 70) (fa 12 71) (fa 12 72) (fa 12 73) (fa 12 68) (fa 12 69) (la 12 70) (fa 12 71) (fa 12 72) (fa 12 73) ∧ ((iv 12 67) : Int32).toInt = (iv 12 67).toInt) ∨ ((0 ≤ (a).toInt ∧ (a).toInt < (iv 12 1).toInt) ∧ ¬ CeY (iv 12 67).toInt (fa 12 68) (fa 12 69) (fa 12 73) (a).toInt ∧ (iv 12 67).toInt < 40 ∧ ((-100003) : Int32).toInt = (iv 12 67).toInt ∧ ((iv 12 67) : Int32).toInt = (iv 12 67).toInt + 1 ∧ ∃ (D R : Nat → Int64) (up dn ro : Int), LwT (fun q v => FoY (iv 12 23).toInt (fa 12 24) (fa 12 25) (fa 12 26) (fa 12 27) (fa 12 28) q (iv 12 0).toInt v) (fa 12 4) (fa 12 5) (fa 12 11) (fa 12 12) (fa 12 7) (fa 12 8) (a).toInt (iv 12 0).toInt ((iv 12 3).toInt).toNat D R up dn ro ∧ ro = 1 ∧ ∃ wt LU LD : Int, FoY (iv 12 23).toInt (fa 12 24) (fa 12 25) (fa 12 26) (fa 12 27) (fa 12 28) 0 (iv 12 0).toInt wt ∧ 0 ≤ wt ∧ LwY up dn (((fa 12 2) ((a).toInt).toNat).toInt * (1000 + wt)) LU LD ∧ ApY ((iv 12 67).toInt).toNat (fa 12 68) (fa 12 69) (la 12 70) (fa 12 71) (fa 12 72) (fa 12 73) (fa 12 68) (fa 12 69) (la 12 70) (fa 12 71) (fa 12 72) (fa 12 73) 0 (a).toInt (LU / LD) (-1) (iv 12 0).toInt)) from Or.inr (Or.inl ⟨by omega, ⟨by omega, by omega⟩, Or.inr ⟨n942, n943, (n948 : Int64).toInt, (n949 : Int64).toInt, _, xr939_0, by omega⟩, (fun j => ⟨rfl, rfl, rfl, rfl, rfl, rfl⟩), by omega⟩)), ⟨by decide, by decide⟩, rfl⟩, by rw [ht9]; exact hP9, hD9⟩, hS.F ht9⟩) hS.2.2 dX12_certify_86
          · have fc937 := z_nle (rfl : ((iv 12 67)).toInt = _) (rfl : (x935_3).toInt = _) c937
            refine lv_iload_n hx hb dX12_certify_23 rfl (lv_at hl 1 rfl) ?_
            refine lv_if_ne (tgt := 55) hx hb dX12_certify_24 (by decide) (fun c973 => ?_) (fun c973 => ?_)
            · have fc973 := z_ne (rfl : (x935_2).toInt = _) (by decide : (0 : Int32).toInt = 0) c973
              refine lv_iconst (v := 1) hx hb dX12_certify_55 (by decide) ?_
              refine lv_goto (tgt := 60) hx hb dX12_certify_56 (by decide) ?_
              refine lv_istore_n (lv' := [(2, .int 1), (3, .int x935_3), (0, .ref h), (1, .int a)]) hx hb dX12_certify_60 rfl hl (by decide) rfl (fun ls hl => ?_)
              obtain ⟨v974, ev974⟩ : ∃ y : Int32, y = x935_3 + 1 := ⟨_, rfl⟩
              have tv974 := z_add ev974 rfl (by decide : (1 : Int32).toInt = 1) (by omega) (by omega)
              refine lv_iinc (v := v974) (lv' := [(3, .int v974), (2, .int 1), (0, .ref h), (1, .int a)]) hx hb dX12_certify_61 hl (k := 1) rfl (by rw [ev974]; rfl) (by decide) rfl (fun ls hl => ?_)
              refine lv_goto (tgt := 15) hx hb dX12_certify_64 (by decide) ?_
              have : (1 : Int32).toInt = 1 := (by decide)
              exact ih936 v974 1 ⟨by omega, by omega⟩ ⟨by decide, by decide⟩ (show (((1 : Int32).toInt = 1 ∧ ∃ p : Nat, (p : Int) < (v974 : Int32).toInt ∧ (((fa 12 68) p).toInt = 0 ∧ ((fa 12 69) p).toInt = (a).toInt ∧ ((fa 12 73) p).toInt < 0)) ∨ ((1 : Int32).toInt = 0 ∧ ∀ p : Nat, (p : Int) < (v974 : Int32).toInt → ¬ (((fa 12 68) p).toInt = 0 ∧ ((fa 12 69) p).toInt = (a).toInt ∧ ((fa 12 73) p).toInt < 0))) from (by
                    rcases hq936_0 with ⟨q1, p, q2, q3⟩ | ⟨q1, q2⟩
                    · exact Or.inl ⟨by omega, p, by omega, q3⟩
                    · exact Or.inl ⟨by omega, ((x935_3 : Int32).toInt).toNat, by omega, (show (fa 12 68 ((x935_3 : Int32).toInt).toNat).toInt = 0 ∧ (fa 12 69 ((x935_3 : Int32).toInt).toNat).toInt = a.toInt ∧ (fa 12 73 ((x935_3 : Int32).toInt).toNat).toInt < 0 from by omega)⟩)) (show (v974 : Int32).toInt ≤ ((iv 12 67) : Int32).toInt from by omega) (by omega) _ _ ls hP hD hS (lv_sub hl [0, 1, 2, 3] rfl)
            · have fc973 := z_eq (rfl : (x935_2).toInt = _) (by decide : (0 : Int32).toInt = 0) c973
              refine lv_aload_n hx hb dX12_certify_27 rfl (lv_at hl 2 rfl) ?_
              refine gM_12_68 hx hb ht hown hK hP m_1207 dX12_certify_28 ?_
              refine lv_iload_n hx hb dX12_certify_31 rfl (lv_at hl 0 rfl) ?_
              refine lM_12_68 hx hb hK hP (f := (fa 12 68)) rfl (vp_in_iff.mpr ⟨by omega, by omega⟩) dX12_certify_32 ?_
              refine lv_topi (fun v975 ev975 => ?_)
              refine lv_if_ne (tgt := 59) hx hb dX12_certify_33 (by decide) (fun c976 => ?_) (fun c976 => ?_)
              · have fc976 := z_ne (rfl : (v975).toInt = _) (by decide : (0 : Int32).toInt = 0) c976
                refine lv_iconst (v := 0) hx hb dX12_certify_59 (by decide) ?_
                refine lv_istore_n (lv' := [(2, .int 0), (3, .int x935_3), (0, .ref h), (1, .int a)]) hx hb dX12_certify_60 rfl hl (by decide) rfl (fun ls hl => ?_)
                obtain ⟨v977, ev977⟩ : ∃ y : Int32, y = x935_3 + 1 := ⟨_, rfl⟩
                have tv977 := z_add ev977 rfl (by decide : (1 : Int32).toInt = 1) (by omega) (by omega)
                refine lv_iinc (v := v977) (lv' := [(3, .int v977), (2, .int 0), (0, .ref h), (1, .int a)]) hx hb dX12_certify_61 hl (k := 1) rfl (by rw [ev977]; rfl) (by decide) rfl (fun ls hl => ?_)
                refine lv_goto (tgt := 15) hx hb dX12_certify_64 (by decide) ?_
                have : (0 : Int32).toInt = 0 := (by decide)
                exact ih936 v977 0 ⟨by omega, by omega⟩ ⟨by decide, by decide⟩ (show (((0 : Int32).toInt = 1 ∧ ∃ p : Nat, (p : Int) < (v977 : Int32).toInt ∧ (((fa 12 68) p).toInt = 0 ∧ ((fa 12 69) p).toInt = (a).toInt ∧ ((fa 12 73) p).toInt < 0)) ∨ ((0 : Int32).toInt = 0 ∧ ∀ p : Nat, (p : Int) < (v977 : Int32).toInt → ¬ (((fa 12 68) p).toInt = 0 ∧ ((fa 12 69) p).toInt = (a).toInt ∧ ((fa 12 73) p).toInt < 0))) from (by
                      have z9_68 := congrArg Int32.toInt (show v975 = fa 12 68 ((x935_3 : Int32).toInt).toNat from ev975)
                      rcases hq936_0 with ⟨q1, p, q2, q3⟩ | ⟨q1, q2⟩
                      · exfalso; omega
                      · refine Or.inr ⟨by omega, fun p hp => ?_⟩
                        by_cases hj : (p : Int) < (x935_3 : Int32).toInt
                        · exact q2 p hj
                        · have hj2 : p = ((x935_3 : Int32).toInt).toNat := by omega
                          rw [hj2]
                          show ¬ ((fa 12 68 ((x935_3 : Int32).toInt).toNat).toInt = 0 ∧ (fa 12 69 ((x935_3 : Int32).toInt).toNat).toInt = a.toInt ∧ (fa 12 73 ((x935_3 : Int32).toInt).toNat).toInt < 0)
                          omega)) (show (v977 : Int32).toInt ≤ ((iv 12 67) : Int32).toInt from by omega) (by omega) _ _ ls hP hD hS (lv_sub hl [0, 1, 2, 3] rfl)
              · have fc976 := z_eq (rfl : (v975).toInt = _) (by decide : (0 : Int32).toInt = 0) c976
                refine lv_aload_n hx hb dX12_certify_36 rfl (lv_at hl 2 rfl) ?_
                refine gM_12_69 hx hb ht hown hK hP m_1208 dX12_certify_37 ?_
                refine lv_iload_n hx hb dX12_certify_40 rfl (lv_at hl 0 rfl) ?_
                refine lM_12_69 hx hb hK hP (f := (fa 12 69)) rfl (vp_in_iff.mpr ⟨by omega, by omega⟩) dX12_certify_41 ?_
                refine lv_topi (fun v978 ev978 => ?_)
                refine lv_iload_n hx hb dX12_certify_42 rfl (lv_at hl 3 rfl) ?_
                refine lv_icmp_ne (tgt := 59) hx hb dX12_certify_43 (by decide) (fun c979 => ?_) (fun c979 => ?_)
                · have fc979 := z_ne (rfl : (v978).toInt = _) (rfl : (a).toInt = _) c979
                  refine lv_iconst (v := 0) hx hb dX12_certify_59 (by decide) ?_
                  refine lv_istore_n (lv' := [(2, .int 0), (3, .int x935_3), (0, .ref h), (1, .int a)]) hx hb dX12_certify_60 rfl hl (by decide) rfl (fun ls hl => ?_)
                  obtain ⟨v980, ev980⟩ : ∃ y : Int32, y = x935_3 + 1 := ⟨_, rfl⟩
                  have tv980 := z_add ev980 rfl (by decide : (1 : Int32).toInt = 1) (by omega) (by omega)
                  refine lv_iinc (v := v980) (lv' := [(3, .int v980), (2, .int 0), (0, .ref h), (1, .int a)]) hx hb dX12_certify_61 hl (k := 1) rfl (by rw [ev980]; rfl) (by decide) rfl (fun ls hl => ?_)
                  refine lv_goto (tgt := 15) hx hb dX12_certify_64 (by decide) ?_
                  have : (0 : Int32).toInt = 0 := (by decide)
                  exact ih936 v980 0 ⟨by omega, by omega⟩ ⟨by decide, by decide⟩ (show (((0 : Int32).toInt = 1 ∧ ∃ p : Nat, (p : Int) < (v980 : Int32).toInt ∧ (((fa 12 68) p).toInt = 0 ∧ ((fa 12 69) p).toInt = (a).toInt ∧ ((fa 12 73) p).toInt < 0)) ∨ ((0 : Int32).toInt = 0 ∧ ∀ p : Nat, (p : Int) < (v980 : Int32).toInt → ¬ (((fa 12 68) p).toInt = 0 ∧ ((fa 12 69) p).toInt = (a).toInt ∧ ((fa 12 73) p).toInt < 0))) from (by
                        have z9_68 := congrArg Int32.toInt (show v975 = fa 12 68 ((x935_3 : Int32).toInt).toNat from ev975)
                        have z9_69 := congrArg Int32.toInt (show v978 = fa 12 69 ((x935_3 : Int32).toInt).toNat from ev978)
                        rcases hq936_0 with ⟨q1, p, q2, q3⟩ | ⟨q1, q2⟩
                        · exfalso; omega
                        · refine Or.inr ⟨by omega, fun p hp => ?_⟩
                          by_cases hj : (p : Int) < (x935_3 : Int32).toInt
                          · exact q2 p hj
                          · have hj2 : p = ((x935_3 : Int32).toInt).toNat := by omega
                            rw [hj2]
                            show ¬ ((fa 12 68 ((x935_3 : Int32).toInt).toNat).toInt = 0 ∧ (fa 12 69 ((x935_3 : Int32).toInt).toNat).toInt = a.toInt ∧ (fa 12 73 ((x935_3 : Int32).toInt).toNat).toInt < 0)
                            omega)) (show (v980 : Int32).toInt ≤ ((iv 12 67) : Int32).toInt from by omega) (by omega) _ _ ls hP hD hS (lv_sub hl [0, 1, 2, 3] rfl)
                · have fc979 := z_eq (rfl : (v978).toInt = _) (rfl : (a).toInt = _) c979
                  refine lv_aload_n hx hb dX12_certify_46 rfl (lv_at hl 2 rfl) ?_
                  refine gM_12_73 hx hb ht hown hK hP m_1212 dX12_certify_47 ?_
                  refine lv_iload_n hx hb dX12_certify_50 rfl (lv_at hl 0 rfl) ?_
                  refine lM_12_73 hx hb hK hP (f := (fa 12 73)) rfl (vp_in_iff.mpr ⟨by omega, by omega⟩) dX12_certify_51 ?_
                  refine lv_topi (fun v981 ev981 => ?_)
                  refine lv_if_ge (tgt := 59) hx hb dX12_certify_52 (by decide) (fun c982 => ?_) (fun c982 => ?_)
                  · have fc982 := z_le (by decide : (0 : Int32).toInt = 0) (rfl : (v981).toInt = _) c982
                    refine lv_iconst (v := 0) hx hb dX12_certify_59 (by decide) ?_
                    refine lv_istore_n (lv' := [(2, .int 0), (3, .int x935_3), (0, .ref h), (1, .int a)]) hx hb dX12_certify_60 rfl hl (by decide) rfl (fun ls hl => ?_)
                    obtain ⟨v983, ev983⟩ : ∃ y : Int32, y = x935_3 + 1 := ⟨_, rfl⟩
                    have tv983 := z_add ev983 rfl (by decide : (1 : Int32).toInt = 1) (by omega) (by omega)
                    refine lv_iinc (v := v983) (lv' := [(3, .int v983), (2, .int 0), (0, .ref h), (1, .int a)]) hx hb dX12_certify_61 hl (k := 1) rfl (by rw [ev983]; rfl) (by decide) rfl (fun ls hl => ?_)
                    refine lv_goto (tgt := 15) hx hb dX12_certify_64 (by decide) ?_
                    have : (0 : Int32).toInt = 0 := (by decide)
                    exact ih936 v983 0 ⟨by omega, by omega⟩ ⟨by decide, by decide⟩ (show (((0 : Int32).toInt = 1 ∧ ∃ p : Nat, (p : Int) < (v983 : Int32).toInt ∧ (((fa 12 68) p).toInt = 0 ∧ ((fa 12 69) p).toInt = (a).toInt ∧ ((fa 12 73) p).toInt < 0)) ∨ ((0 : Int32).toInt = 0 ∧ ∀ p : Nat, (p : Int) < (v983 : Int32).toInt → ¬ (((fa 12 68) p).toInt = 0 ∧ ((fa 12 69) p).toInt = (a).toInt ∧ ((fa 12 73) p).toInt < 0))) from (by
                          have z9_68 := congrArg Int32.toInt (show v975 = fa 12 68 ((x935_3 : Int32).toInt).toNat from ev975)
                          have z9_69 := congrArg Int32.toInt (show v978 = fa 12 69 ((x935_3 : Int32).toInt).toNat from ev978)
                          have z9_73 := congrArg Int32.toInt (show v981 = fa 12 73 ((x935_3 : Int32).toInt).toNat from ev981)
                          rcases hq936_0 with ⟨q1, p, q2, q3⟩ | ⟨q1, q2⟩
                          · exfalso; omega
                          · refine Or.inr ⟨by omega, fun p hp => ?_⟩
                            by_cases hj : (p : Int) < (x935_3 : Int32).toInt
                            · exact q2 p hj
                            · have hj2 : p = ((x935_3 : Int32).toInt).toNat := by omega
                              rw [hj2]
                              show ¬ ((fa 12 68 ((x935_3 : Int32).toInt).toNat).toInt = 0 ∧ (fa 12 69 ((x935_3 : Int32).toInt).toNat).toInt = a.toInt ∧ (fa 12 73 ((x935_3 : Int32).toInt).toNat).toInt < 0)
                              omega)) (show (v983 : Int32).toInt ≤ ((iv 12 67) : Int32).toInt from by omega) (by omega) _ _ ls hP hD hS (lv_sub hl [0, 1, 2, 3] rfl)
                  · have fc982 := z_nle (by decide : (0 : Int32).toInt = 0) (rfl : (v981).toInt = _) c982
                    refine lv_iconst (v := 1) hx hb dX12_certify_55 (by decide) ?_
                    refine lv_goto (tgt := 60) hx hb dX12_certify_56 (by decide) ?_
                    refine lv_istore_n (lv' := [(2, .int 1), (3, .int x935_3), (0, .ref h), (1, .int a)]) hx hb dX12_certify_60 rfl hl (by decide) rfl (fun ls hl => ?_)
                    obtain ⟨v984, ev984⟩ : ∃ y : Int32, y = x935_3 + 1 := ⟨_, rfl⟩
                    have tv984 := z_add ev984 rfl (by decide : (1 : Int32).toInt = 1) (by omega) (by omega)
                    refine lv_iinc (v := v984) (lv' := [(3, .int v984), (2, .int 1), (0, .ref h), (1, .int a)]) hx hb dX12_certify_61 hl (k := 1) rfl (by rw [ev984]; rfl) (by decide) rfl (fun ls hl => ?_)
                    refine lv_goto (tgt := 15) hx hb dX12_certify_64 (by decide) ?_
                    have : (1 : Int32).toInt = 1 := (by decide)
                    exact ih936 v984 1 ⟨by omega, by omega⟩ ⟨by decide, by decide⟩ (show (((1 : Int32).toInt = 1 ∧ ∃ p : Nat, (p : Int) < (v984 : Int32).toInt ∧ (((fa 12 68) p).toInt = 0 ∧ ((fa 12 69) p).toInt = (a).toInt ∧ ((fa 12 73) p).toInt < 0)) ∨ ((1 : Int32).toInt = 0 ∧ ∀ p : Nat, (p : Int) < (v984 : Int32).toInt → ¬ (((fa 12 68) p).toInt = 0 ∧ ((fa 12 69) p).toInt = (a).toInt ∧ ((fa 12 73) p).toInt < 0))) from (by
                          have z9_68 := congrArg Int32.toInt (show v975 = fa 12 68 ((x935_3 : Int32).toInt).toNat from ev975)
                          have z9_69 := congrArg Int32.toInt (show v978 = fa 12 69 ((x935_3 : Int32).toInt).toNat from ev978)
                          have z9_73 := congrArg Int32.toInt (show v981 = fa 12 73 ((x935_3 : Int32).toInt).toNat from ev981)
                          rcases hq936_0 with ⟨q1, p, q2, q3⟩ | ⟨q1, q2⟩
                          · exact Or.inl ⟨by omega, p, by omega, q3⟩
                          · exact Or.inl ⟨by omega, ((x935_3 : Int32).toInt).toNat, by omega, (show (fa 12 68 ((x935_3 : Int32).toInt).toNat).toInt = 0 ∧ (fa 12 69 ((x935_3 : Int32).toInt).toNat).toInt = a.toInt ∧ (fa 12 73 ((x935_3 : Int32).toInt).toNat).toInt < 0 from by omega)⟩)) (show (v984 : Int32).toInt ≤ ((iv 12 67) : Int32).toInt from by omega) (by omega) _ _ ls hP hD hS (lv_sub hl [0, 1, 2, 3] rfl)
      have : (0 : Int32).toInt = 0 := (by decide)
      have i_12_67 : 0 ≤ (iv 12 67).toInt ∧ (iv 12 67).toInt ≤ 40 := hI.1 12 67
      exact lp936 41 0 0 ⟨by decide, by decide⟩ ⟨by decide, by decide⟩ (show (((0 : Int32).toInt = 1 ∧ ∃ p : Nat, (p : Int) < (0 : Int32).toInt ∧ (((fa 12 68) p).toInt = 0 ∧ ((fa 12 69) p).toInt = (a).toInt ∧ ((fa 12 73) p).toInt < 0)) ∨ ((0 : Int32).toInt = 0 ∧ ∀ p : Nat, (p : Int) < (0 : Int32).toInt → ¬ (((fa 12 68) p).toInt = 0 ∧ ((fa 12 69) p).toInt = (a).toInt ∧ ((fa 12 73) p).toInt < 0))) from (Or.inr ⟨by decide, fun p hp => absurd hp (by omega)⟩)) (show (0 : Int32).toInt ≤ ((iv 12 67) : Int32).toInt from by omega) (by first | decide | omega) _ _ ls hP hD hS (lv_sub hl [0, 1, 2, 3] rfl)
    · exact absurd rfl c3
/-! ===== pb2 ===== -/
set_option maxHeartbeats 4000000 in
set_option maxRecDepth 100000 in
/-- X6_standing -/
theorem c_X6_standing_w (l : Launch) (dC : Nat → ClassId) (dI : Nat → Nat → Nat) (h : Nat) (g : Nat → Nat → Nat) (ca : Nat → Nat → ClassId) (iv : Nat → Nat → Int32) (lv : Nat → Nat → Int64) (fa : Nat → Nat → Nat → Int32) (la : Nat → Nat → Nat → Int64) (hI : IX iv fa) (a : Int32) (b : Int32) : Met l yX6_standing (wc yX6_standing cX6_standing 7 (some .long)) ({ frames := 0, cells := 0, slots := 0, locals := 0 } : Room) (pR (dC, dI) classes (WX h g ca iv lv fa la) (TX ca) [.ref (g 11 9), .int a, .int b]) (vp_Sl (fun r => (True) ∧ (r.toInt = (smL (fun q : Nat => ((fa 6 4) q).toInt ≤ a.toInt ∧ (((fa 6 5) q).toInt = -1 ∨ a.toInt < ((fa 6 5) q).toInt) ∧ ((fa 6 0) q).toInt = b.toInt) (fa 6 2) ((iv 6 7).toInt).toNat).toInt))) 0 0 (fun _ => False) := by
  refine Met.ofW (cc := cX6_standing) (maxL := 7) (ret := (some .long)) (by decide) rfl ?_
  intro p e s m args below meth c s₁ B hml hv
  obtain ⟨rfl, hP, hK⟩ := hv
  have hx := B.exec
  have hb := B.bytes
  have hr := B.returns
  have ht := tb_tl (atoms_spec (ws := wc yX6_standing cX6_standing 7 (some .long)) B.pre)
  have hown : s.vm.findClass RX6 = some m.cls := findClass_of_methodNamed B.named
  have hlocks := B.notSynchronized
  have hl := lv_entry [.ref (g 11 9), .int a, .int b] (n := 7) (Nat.le_of_ble_eq_true rfl)
  rw [lg_entry_eq]
  generalize (lg_sl [.ref (g 11 9), .int a, .int b] ++ List.replicate (7 - (lg_sl [.ref (g 11 9), .int a, .int b]).length) Slot.unset).toArray = ls at hl ⊢
  have hl : lv_has ls 7 [(0, .ref (g 11 9)), (1, .int a), (2, .int b)] := hl
  refine lv_lconst (v := 0) hx hb dX6_standing_0 (by decide) ?_
  refine lv_lstore_n (lv' := [(3, .long 0), (0, .ref (g 11 9)), (1, .int a), (2, .int b)]) hx hb dX6_standing_1 rfl hl (by decide) rfl (fun ls hl => ?_)
  refine lv_iconst (v := 0) hx hb dX6_standing_2 (by decide) ?_
  refine lv_istore (lv' := [(5, .int 0), (3, .long 0), (0, .ref (g 11 9)), (1, .int a), (2, .int b)]) hx hb dX6_standing_3 hl (by decide) rfl (fun ls hl => ?_)
  have i_6_7 : 0 ≤ (iv 6 7).toInt ∧ (iv 6 7).toInt ≤ 40 := hI.1 6 7
  have lp610 : ∀ (nn610 : Nat) (x609_5 : Int32) (x609_3 : Int64), 0 ≤ x609_5.toInt ∧ x609_5.toInt ≤ 40 → ((x609_3 : Int64) = smL (fun q : Nat => ((fa 6 4) q).toInt ≤ (a).toInt ∧ (((fa 6 5) q).toInt = -1 ∨ (a).toInt < ((fa 6 5) q).toInt) ∧ ((fa 6 0) q).toInt = (b).toInt) (fa 6 2) ((x609_5 : Int32).toInt).toNat) → (x609_5 : Int32).toInt ≤ ((iv 6 7) : Int32).toInt → 40 - x609_5.toInt < (nn610 : Int) → ∀ (ls : Array Slot), lv_has ls 7 [(5, .int x609_5), (3, .long x609_3), (0, .ref (g 11 9)), (1, .int a), (2, .int b)] → W p l e ({ frames := 0, cells := 0, slots := 0, locals := 0 } : Room) s m ([.ref (g 11 9), .int a, .int b] : List Value).toArray below meth c s.heap [] 0 0 (MQ below (vp_Sl (fun r => (True) ∧ (r.toInt = (smL (fun q : Nat => ((fa 6 4) q).toInt ≤ a.toInt ∧ (((fa 6 5) q).toInt = -1 ∨ a.toInt < ((fa 6 5) q).toInt) ∧ ((fa 6 0) q).toInt = b.toInt) (fa 6 2) ((iv 6 7).toInt).toNat).toInt))) ([.ref (g 11 9), .int a, .int b] : List Value).toArray s 0 0 (fun _ => False)) (F0 m 5 ls []) := by
    intro nn610
    induction nn610 with
    | zero => intro x609_5 x609_3 hx609_5 hq610_0 hq610_1 hm610; exfalso; omega
    | succ nn610 ih610 =>
      intro x609_5 x609_3 hx609_5 hq610_0 hq610_1 hm610 ls hl
      refine lv_iload hx hb dX6_standing_5 (lv_at hl 0 rfl) ?_
      refine lv_aload_n hx hb dX6_standing_7 rfl (lv_at hl 2 rfl) ?_
      refine gX_6_7 hx hb ht hown hK hP m_396 (v := (iv 6 7)) rfl dX6_standing_8 ?_
      refine lv_icmp_ge (tgt := 87) hx hb dX6_standing_11 (by decide) (fun c611 => ?_) (fun c611 => ?_)
      · have fc611 := z_le (rfl : ((iv 6 7)).toInt = _) (rfl : (x609_5).toInt = _) c611
        refine lv_lload_n hx hb dX6_standing_87 rfl (lv_at hl 1 rfl) ?_
        exact W.lret (v := x609_3) hx hb hr (fun t ht9 hW => ⟨x609_3, rfl, ⟨trivial, (show (x609_3 : Int64).toInt = (smL (fun q : Nat => ((fa 6 4) q).toInt ≤ (a).toInt ∧ (((fa 6 5) q).toInt = -1 ∨ (a).toInt < ((fa 6 5) q).toInt) ∧ ((fa 6 0) q).toInt = (b).toInt) (fa 6 2) (((iv 6 7) : Int32).toInt).toNat).toInt from (by have hq9 := hq610_0; have he9 : (x609_5 : Int32).toInt = (iv 6 7).toInt := (by omega); rw [he9] at hq9; exact congrArg Int64.toInt hq9))⟩, ht9⟩) (fun q hq => by cases hq) dX6_standing_88
      · have fc611 := z_nle (rfl : ((iv 6 7)).toInt = _) (rfl : (x609_5).toInt = _) c611
        refine lv_aload_n hx hb dX6_standing_14 rfl (lv_at hl 2 rfl) ?_
        refine gX_6_4 hx hb ht hown hK hP m_391 dX6_standing_15 ?_
        refine lv_iload hx hb dX6_standing_18 (lv_at hl 0 rfl) ?_
        refine lX_6_4 hx hb hK hP (f := (fa 6 4)) rfl (vp_in_iff.mpr ⟨by omega, by omega⟩) dX6_standing_20 ?_
        refine lv_topi (fun v612 ev612 => ?_)
        refine lv_iload_n hx hb dX6_standing_21 rfl (lv_at hl 3 rfl) ?_
        refine lv_icmp_gt (tgt := 51) hx hb dX6_standing_22 (by decide) (fun c613 => ?_) (fun c613 => ?_)
        · have fc613 := z_lt (rfl : (a).toInt = _) (rfl : (v612).toInt = _) c613
          refine lv_iconst (v := 0) hx hb dX6_standing_51 (by decide) ?_
          refine lv_istore (lv' := [(6, .int 0), (5, .int x609_5), (3, .long x609_3), (0, .ref (g 11 9)), (1, .int a), (2, .int b)]) hx hb dX6_standing_52 hl (by decide) rfl (fun ls hl => ?_)
          refine lv_aload_n hx hb dX6_standing_54 rfl (lv_at hl 3 rfl) ?_
          refine gX_6_0 hx hb ht hown hK hP m_383 dX6_standing_55 ?_
          refine lv_iload hx hb dX6_standing_58 (lv_at hl 1 rfl) ?_
          refine lX_6_0 hx hb hK hP (f := (fa 6 0)) rfl (vp_in_iff.mpr ⟨by omega, by omega⟩) dX6_standing_60 ?_
          refine lv_topi (fun v614 ev614 => ?_)
          refine lv_iload_n hx hb dX6_standing_61 rfl (lv_at hl 5 rfl) ?_
          refine lv_icmp_ne (tgt := 81) hx hb dX6_standing_62 (by decide) (fun c615 => ?_) (fun c615 => ?_)
          · have fc615 := z_ne (rfl : (v614).toInt = _) (rfl : (b).toInt = _) c615
            obtain ⟨v616, ev616⟩ : ∃ y : Int32, y = x609_5 + 1 := ⟨_, rfl⟩
            have tv616 := z_add ev616 rfl (by decide : (1 : Int32).toInt = 1) (by omega) (by omega)
            refine lv_iinc (v := v616) (lv' := [(5, .int v616), (6, .int 0), (3, .long x609_3), (0, .ref (g 11 9)), (1, .int a), (2, .int b)]) hx hb dX6_standing_81 hl (k := 1) rfl (by rw [ev616]; rfl) (by decide) rfl (fun ls hl => ?_)
            refine lv_goto (tgt := 5) hx hb dX6_standing_84 (by decide) ?_
            exact ih610 v616 x609_3 ⟨by omega, by omega⟩ (show (x609_3 : Int64) = smL (fun q : Nat => ((fa 6 4) q).toInt ≤ (a).toInt ∧ (((fa 6 5) q).toInt = -1 ∨ (a).toInt < ((fa 6 5) q).toInt) ∧ ((fa 6 0) q).toInt = (b).toInt) (fa 6 2) ((v616 : Int32).toInt).toNat from (by
                  have z9_4 := congrArg Int32.toInt (show v612 = fa 6 4 ((x609_5 : Int32).toInt).toNat from ev612)
                  have z9_0 := congrArg Int32.toInt (show v614 = fa 6 0 ((x609_5 : Int32).toInt).toNat from ev614)
                  have hs9 : ((v616 : Int32).toInt).toNat = ((x609_5 : Int32).toInt).toNat + 1 := by omega
                  rw [smL_n hs9 (show ¬ (((fa 6 4) ((x609_5 : Int32).toInt).toNat).toInt ≤ a.toInt ∧ (((fa 6 5) ((x609_5 : Int32).toInt).toNat).toInt = -1 ∨ a.toInt < ((fa 6 5) ((x609_5 : Int32).toInt).toNat).toInt) ∧ ((fa 6 0) ((x609_5 : Int32).toInt).toNat).toInt = b.toInt) from by omega)]; exact hq610_0)) (show (v616 : Int32).toInt ≤ ((iv 6 7) : Int32).toInt from by omega) (by omega) ls (lv_sub hl [0, 2, 3, 4, 5] rfl)
          · have fc615 := z_eq (rfl : (v614).toInt = _) (rfl : (b).toInt = _) c615
            refine lv_iload hx hb dX6_standing_65 (lv_at hl 0 rfl) ?_
            refine lv_if_eq (tgt := 81) hx hb dX6_standing_67 (by decide) (fun c617 => ?_) (fun c617 => ?_)
            · skip
              obtain ⟨v618, ev618⟩ : ∃ y : Int32, y = x609_5 + 1 := ⟨_, rfl⟩
              have tv618 := z_add ev618 rfl (by decide : (1 : Int32).toInt = 1) (by omega) (by omega)
              refine lv_iinc (v := v618) (lv' := [(5, .int v618), (6, .int 0), (3, .long x609_3), (0, .ref (g 11 9)), (1, .int a), (2, .int b)]) hx hb dX6_standing_81 hl (k := 1) rfl (by rw [ev618]; rfl) (by decide) rfl (fun ls hl => ?_)
              refine lv_goto (tgt := 5) hx hb dX6_standing_84 (by decide) ?_
              exact ih610 v618 x609_3 ⟨by omega, by omega⟩ (show (x609_3 : Int64) = smL (fun q : Nat => ((fa 6 4) q).toInt ≤ (a).toInt ∧ (((fa 6 5) q).toInt = -1 ∨ (a).toInt < ((fa 6 5) q).toInt) ∧ ((fa 6 0) q).toInt = (b).toInt) (fa 6 2) ((v618 : Int32).toInt).toNat from (by
                    have z9_4 := congrArg Int32.toInt (show v612 = fa 6 4 ((x609_5 : Int32).toInt).toNat from ev612)
                    have z9_0 := congrArg Int32.toInt (show v614 = fa 6 0 ((x609_5 : Int32).toInt).toNat from ev614)
                    have hs9 : ((v618 : Int32).toInt).toNat = ((x609_5 : Int32).toInt).toNat + 1 := by omega
                    rw [smL_n hs9 (show ¬ (((fa 6 4) ((x609_5 : Int32).toInt).toNat).toInt ≤ a.toInt ∧ (((fa 6 5) ((x609_5 : Int32).toInt).toNat).toInt = -1 ∨ a.toInt < ((fa 6 5) ((x609_5 : Int32).toInt).toNat).toInt) ∧ ((fa 6 0) ((x609_5 : Int32).toInt).toNat).toInt = b.toInt) from by omega)]; exact hq610_0)) (show (v618 : Int32).toInt ≤ ((iv 6 7) : Int32).toInt from by omega) (by omega) ls (lv_sub hl [0, 2, 3, 4, 5] rfl)
            · exact absurd rfl c617
        · have fc613 := z_nlt (rfl : (a).toInt = _) (rfl : (v612).toInt = _) c613
          refine lv_aload_n hx hb dX6_standing_25 rfl (lv_at hl 2 rfl) ?_
          refine gX_6_5 hx hb ht hown hK hP m_393 dX6_standing_26 ?_
          refine lv_iload hx hb dX6_standing_29 (lv_at hl 0 rfl) ?_
          refine lX_6_5 hx hb hK hP (f := (fa 6 5)) rfl (vp_in_iff.mpr ⟨by omega, by omega⟩) dX6_standing_31 ?_
          refine lv_topi (fun v619 ev619 => ?_)
          refine lv_iconst (v := (-1)) hx hb dX6_standing_32 (by decide) ?_
          refine lv_icmp_eq (tgt := 47) hx hb dX6_standing_33 (by decide) (fun c620 => ?_) (fun c620 => ?_)
          · have fc620 := z_eq (rfl : (v619).toInt = _) (by decide : ((-1) : Int32).toInt = (-1)) c620
            refine lv_iconst (v := 1) hx hb dX6_standing_47 (by decide) ?_
            refine lv_goto (tgt := 52) hx hb dX6_standing_48 (by decide) ?_
            refine lv_istore (lv' := [(6, .int 1), (5, .int x609_5), (3, .long x609_3), (0, .ref (g 11 9)), (1, .int a), (2, .int b)]) hx hb dX6_standing_52 hl (by decide) rfl (fun ls hl => ?_)
            refine lv_aload_n hx hb dX6_standing_54 rfl (lv_at hl 3 rfl) ?_
            refine gX_6_0 hx hb ht hown hK hP m_383 dX6_standing_55 ?_
            refine lv_iload hx hb dX6_standing_58 (lv_at hl 1 rfl) ?_
            refine lX_6_0 hx hb hK hP (f := (fa 6 0)) rfl (vp_in_iff.mpr ⟨by omega, by omega⟩) dX6_standing_60 ?_
            refine lv_topi (fun v621 ev621 => ?_)
            refine lv_iload_n hx hb dX6_standing_61 rfl (lv_at hl 5 rfl) ?_
            refine lv_icmp_ne (tgt := 81) hx hb dX6_standing_62 (by decide) (fun c622 => ?_) (fun c622 => ?_)
            · have fc622 := z_ne (rfl : (v621).toInt = _) (rfl : (b).toInt = _) c622
              obtain ⟨v623, ev623⟩ : ∃ y : Int32, y = x609_5 + 1 := ⟨_, rfl⟩
              have tv623 := z_add ev623 rfl (by decide : (1 : Int32).toInt = 1) (by omega) (by omega)
              refine lv_iinc (v := v623) (lv' := [(5, .int v623), (6, .int 1), (3, .long x609_3), (0, .ref (g 11 9)), (1, .int a), (2, .int b)]) hx hb dX6_standing_81 hl (k := 1) rfl (by rw [ev623]; rfl) (by decide) rfl (fun ls hl => ?_)
              refine lv_goto (tgt := 5) hx hb dX6_standing_84 (by decide) ?_
              exact ih610 v623 x609_3 ⟨by omega, by omega⟩ (show (x609_3 : Int64) = smL (fun q : Nat => ((fa 6 4) q).toInt ≤ (a).toInt ∧ (((fa 6 5) q).toInt = -1 ∨ (a).toInt < ((fa 6 5) q).toInt) ∧ ((fa 6 0) q).toInt = (b).toInt) (fa 6 2) ((v623 : Int32).toInt).toNat from (by
                    have z9_4 := congrArg Int32.toInt (show v612 = fa 6 4 ((x609_5 : Int32).toInt).toNat from ev612)
                    have z9_5 := congrArg Int32.toInt (show v619 = fa 6 5 ((x609_5 : Int32).toInt).toNat from ev619)
                    have z9_0 := congrArg Int32.toInt (show v621 = fa 6 0 ((x609_5 : Int32).toInt).toNat from ev621)
                    have hs9 : ((v623 : Int32).toInt).toNat = ((x609_5 : Int32).toInt).toNat + 1 := by omega
                    rw [smL_n hs9 (show ¬ (((fa 6 4) ((x609_5 : Int32).toInt).toNat).toInt ≤ a.toInt ∧ (((fa 6 5) ((x609_5 : Int32).toInt).toNat).toInt = -1 ∨ a.toInt < ((fa 6 5) ((x609_5 : Int32).toInt).toNat).toInt) ∧ ((fa 6 0) ((x609_5 : Int32).toInt).toNat).toInt = b.toInt) from by omega)]; exact hq610_0)) (show (v623 : Int32).toInt ≤ ((iv 6 7) : Int32).toInt from by omega) (by omega) ls (lv_sub hl [0, 2, 3, 4, 5] rfl)
            · have fc622 := z_eq (rfl : (v621).toInt = _) (rfl : (b).toInt = _) c622
              refine lv_iload hx hb dX6_standing_65 (lv_at hl 0 rfl) ?_
              refine lv_if_eq (tgt := 81) hx hb dX6_standing_67 (by decide) (fun c624 => ?_) (fun c624 => ?_)
              · exact absurd c624 (by decide)
              · skip
                refine lv_lload_n hx hb dX6_standing_70 rfl (lv_at hl 2 rfl) ?_
                refine lv_aload_n hx hb dX6_standing_71 rfl (lv_at hl 3 rfl) ?_
                refine gX_6_2 hx hb ht hown hK hP m_387 dX6_standing_72 ?_
                refine lv_iload hx hb dX6_standing_75 (lv_at hl 1 rfl) ?_
                refine lX_6_2 hx hb hK hP (f := (fa 6 2)) rfl (vp_in_iff.mpr ⟨by omega, by omega⟩) dX6_standing_77 ?_
                refine lv_topi (fun v625 ev625 => ?_)
                refine lv_i2l (v := (v625.toInt64)) hx hb dX6_standing_78 rfl ?_
                refine lv_ladd hx hb dX6_standing_79 ?_
                refine lv_topl (fun w626 ew626 => ?_)
                refine lv_lstore_n (lv' := [(3, .long w626), (6, .int 1), (5, .int x609_5), (0, .ref (g 11 9)), (1, .int a), (2, .int b)]) hx hb dX6_standing_80 rfl hl (by decide) rfl (fun ls hl => ?_)
                obtain ⟨v627, ev627⟩ : ∃ y : Int32, y = x609_5 + 1 := ⟨_, rfl⟩
                have tv627 := z_add ev627 rfl (by decide : (1 : Int32).toInt = 1) (by omega) (by omega)
                refine lv_iinc (v := v627) (lv' := [(5, .int v627), (3, .long w626), (6, .int 1), (0, .ref (g 11 9)), (1, .int a), (2, .int b)]) hx hb dX6_standing_81 hl (k := 2) rfl (by rw [ev627]; rfl) (by decide) rfl (fun ls hl => ?_)
                refine lv_goto (tgt := 5) hx hb dX6_standing_84 (by decide) ?_
                exact ih610 v627 w626 ⟨by omega, by omega⟩ (show (w626 : Int64) = smL (fun q : Nat => ((fa 6 4) q).toInt ≤ (a).toInt ∧ (((fa 6 5) q).toInt = -1 ∨ (a).toInt < ((fa 6 5) q).toInt) ∧ ((fa 6 0) q).toInt = (b).toInt) (fa 6 2) ((v627 : Int32).toInt).toNat from (by
                      have z9_4 := congrArg Int32.toInt (show v612 = fa 6 4 ((x609_5 : Int32).toInt).toNat from ev612)
                      have z9_5 := congrArg Int32.toInt (show v619 = fa 6 5 ((x609_5 : Int32).toInt).toNat from ev619)
                      have z9_0 := congrArg Int32.toInt (show v621 = fa 6 0 ((x609_5 : Int32).toInt).toNat from ev621)
                      have hs9 : ((v627 : Int32).toInt).toNat = ((x609_5 : Int32).toInt).toNat + 1 := by omega
                      rw [smL_y hs9 (show ((fa 6 4) ((x609_5 : Int32).toInt).toNat).toInt ≤ a.toInt ∧ (((fa 6 5) ((x609_5 : Int32).toInt).toNat).toInt = -1 ∨ a.toInt < ((fa 6 5) ((x609_5 : Int32).toInt).toNat).toInt) ∧ ((fa 6 0) ((x609_5 : Int32).toInt).toNat).toInt = b.toInt from by omega), ← hq610_0, ew626, show v625 = fa 6 2 ((x609_5 : Int32).toInt).toNat from ev625])) (show (v627 : Int32).toInt ≤ ((iv 6 7) : Int32).toInt from by omega) (by omega) ls (lv_sub hl [0, 1, 3, 4, 5] rfl)
          · have fc620 := z_ne (rfl : (v619).toInt = _) (by decide : ((-1) : Int32).toInt = (-1)) c620
            refine lv_aload_n hx hb dX6_standing_36 rfl (lv_at hl 2 rfl) ?_
            refine gX_6_5 hx hb ht hown hK hP m_393 dX6_standing_37 ?_
            refine lv_iload hx hb dX6_standing_40 (lv_at hl 0 rfl) ?_
            refine lX_6_5 hx hb hK hP (f := (fa 6 5)) rfl (vp_in_iff.mpr ⟨by omega, by omega⟩) dX6_standing_42 ?_
            refine lv_topi (fun v628 ev628 => ?_)
            obtain rfl : v619 = v628 := ev619.trans ev628.symm
            refine lv_iload_n hx hb dX6_standing_43 rfl (lv_at hl 3 rfl) ?_
            refine lv_icmp_le (tgt := 51) hx hb dX6_standing_44 (by decide) (fun c629 => ?_) (fun c629 => ?_)
            · have fc629 := z_le (rfl : (v619).toInt = _) (rfl : (a).toInt = _) c629
              refine lv_iconst (v := 0) hx hb dX6_standing_51 (by decide) ?_
              refine lv_istore (lv' := [(6, .int 0), (5, .int x609_5), (3, .long x609_3), (0, .ref (g 11 9)), (1, .int a), (2, .int b)]) hx hb dX6_standing_52 hl (by decide) rfl (fun ls hl => ?_)
              refine lv_aload_n hx hb dX6_standing_54 rfl (lv_at hl 3 rfl) ?_
              refine gX_6_0 hx hb ht hown hK hP m_383 dX6_standing_55 ?_
              refine lv_iload hx hb dX6_standing_58 (lv_at hl 1 rfl) ?_
              refine lX_6_0 hx hb hK hP (f := (fa 6 0)) rfl (vp_in_iff.mpr ⟨by omega, by omega⟩) dX6_standing_60 ?_
              refine lv_topi (fun v630 ev630 => ?_)
              refine lv_iload_n hx hb dX6_standing_61 rfl (lv_at hl 5 rfl) ?_
              refine lv_icmp_ne (tgt := 81) hx hb dX6_standing_62 (by decide) (fun c631 => ?_) (fun c631 => ?_)
              · have fc631 := z_ne (rfl : (v630).toInt = _) (rfl : (b).toInt = _) c631
                obtain ⟨v632, ev632⟩ : ∃ y : Int32, y = x609_5 + 1 := ⟨_, rfl⟩
                have tv632 := z_add ev632 rfl (by decide : (1 : Int32).toInt = 1) (by omega) (by omega)
                refine lv_iinc (v := v632) (lv' := [(5, .int v632), (6, .int 0), (3, .long x609_3), (0, .ref (g 11 9)), (1, .int a), (2, .int b)]) hx hb dX6_standing_81 hl (k := 1) rfl (by rw [ev632]; rfl) (by decide) rfl (fun ls hl => ?_)
                refine lv_goto (tgt := 5) hx hb dX6_standing_84 (by decide) ?_
                exact ih610 v632 x609_3 ⟨by omega, by omega⟩ (show (x609_3 : Int64) = smL (fun q : Nat => ((fa 6 4) q).toInt ≤ (a).toInt ∧ (((fa 6 5) q).toInt = -1 ∨ (a).toInt < ((fa 6 5) q).toInt) ∧ ((fa 6 0) q).toInt = (b).toInt) (fa 6 2) ((v632 : Int32).toInt).toNat from (by
                      have z9_4 := congrArg Int32.toInt (show v612 = fa 6 4 ((x609_5 : Int32).toInt).toNat from ev612)
                      have z9_5 := congrArg Int32.toInt (show v619 = fa 6 5 ((x609_5 : Int32).toInt).toNat from ev619)
                      have z9_0 := congrArg Int32.toInt (show v630 = fa 6 0 ((x609_5 : Int32).toInt).toNat from ev630)
                      have hs9 : ((v632 : Int32).toInt).toNat = ((x609_5 : Int32).toInt).toNat + 1 := by omega
                      rw [smL_n hs9 (show ¬ (((fa 6 4) ((x609_5 : Int32).toInt).toNat).toInt ≤ a.toInt ∧ (((fa 6 5) ((x609_5 : Int32).toInt).toNat).toInt = -1 ∨ a.toInt < ((fa 6 5) ((x609_5 : Int32).toInt).toNat).toInt) ∧ ((fa 6 0) ((x609_5 : Int32).toInt).toNat).toInt = b.toInt) from by omega)]; exact hq610_0)) (show (v632 : Int32).toInt ≤ ((iv 6 7) : Int32).toInt from by omega) (by omega) ls (lv_sub hl [0, 2, 3, 4, 5] rfl)
              · have fc631 := z_eq (rfl : (v630).toInt = _) (rfl : (b).toInt = _) c631
                refine lv_iload hx hb dX6_standing_65 (lv_at hl 0 rfl) ?_
                refine lv_if_eq (tgt := 81) hx hb dX6_standing_67 (by decide) (fun c633 => ?_) (fun c633 => ?_)
                · skip
                  obtain ⟨v634, ev634⟩ : ∃ y : Int32, y = x609_5 + 1 := ⟨_, rfl⟩
                  have tv634 := z_add ev634 rfl (by decide : (1 : Int32).toInt = 1) (by omega) (by omega)
                  refine lv_iinc (v := v634) (lv' := [(5, .int v634), (6, .int 0), (3, .long x609_3), (0, .ref (g 11 9)), (1, .int a), (2, .int b)]) hx hb dX6_standing_81 hl (k := 1) rfl (by rw [ev634]; rfl) (by decide) rfl (fun ls hl => ?_)
                  refine lv_goto (tgt := 5) hx hb dX6_standing_84 (by decide) ?_
                  exact ih610 v634 x609_3 ⟨by omega, by omega⟩ (show (x609_3 : Int64) = smL (fun q : Nat => ((fa 6 4) q).toInt ≤ (a).toInt ∧ (((fa 6 5) q).toInt = -1 ∨ (a).toInt < ((fa 6 5) q).toInt) ∧ ((fa 6 0) q).toInt = (b).toInt) (fa 6 2) ((v634 : Int32).toInt).toNat from (by
                        have z9_4 := congrArg Int32.toInt (show v612 = fa 6 4 ((x609_5 : Int32).toInt).toNat from ev612)
                        have z9_5 := congrArg Int32.toInt (show v619 = fa 6 5 ((x609_5 : Int32).toInt).toNat from ev619)
                        have z9_0 := congrArg Int32.toInt (show v630 = fa 6 0 ((x609_5 : Int32).toInt).toNat from ev630)
                        have hs9 : ((v634 : Int32).toInt).toNat = ((x609_5 : Int32).toInt).toNat + 1 := by omega
                        rw [smL_n hs9 (show ¬ (((fa 6 4) ((x609_5 : Int32).toInt).toNat).toInt ≤ a.toInt ∧ (((fa 6 5) ((x609_5 : Int32).toInt).toNat).toInt = -1 ∨ a.toInt < ((fa 6 5) ((x609_5 : Int32).toInt).toNat).toInt) ∧ ((fa 6 0) ((x609_5 : Int32).toInt).toNat).toInt = b.toInt) from by omega)]; exact hq610_0)) (show (v634 : Int32).toInt ≤ ((iv 6 7) : Int32).toInt from by omega) (by omega) ls (lv_sub hl [0, 2, 3, 4, 5] rfl)
                · exact absurd rfl c633
            · have fc629 := z_nle (rfl : (v619).toInt = _) (rfl : (a).toInt = _) c629
              refine lv_iconst (v := 1) hx hb dX6_standing_47 (by decide) ?_
              refine lv_goto (tgt := 52) hx hb dX6_standing_48 (by decide) ?_
              refine lv_istore (lv' := [(6, .int 1), (5, .int x609_5), (3, .long x609_3), (0, .ref (g 11 9)), (1, .int a), (2, .int b)]) hx hb dX6_standing_52 hl (by decide) rfl (fun ls hl => ?_)
              refine lv_aload_n hx hb dX6_standing_54 rfl (lv_at hl 3 rfl) ?_
              refine gX_6_0 hx hb ht hown hK hP m_383 dX6_standing_55 ?_
              refine lv_iload hx hb dX6_standing_58 (lv_at hl 1 rfl) ?_
              refine lX_6_0 hx hb hK hP (f := (fa 6 0)) rfl (vp_in_iff.mpr ⟨by omega, by omega⟩) dX6_standing_60 ?_
              refine lv_topi (fun v635 ev635 => ?_)
              refine lv_iload_n hx hb dX6_standing_61 rfl (lv_at hl 5 rfl) ?_
              refine lv_icmp_ne (tgt := 81) hx hb dX6_standing_62 (by decide) (fun c636 => ?_) (fun c636 => ?_)
              · have fc636 := z_ne (rfl : (v635).toInt = _) (rfl : (b).toInt = _) c636
                obtain ⟨v637, ev637⟩ : ∃ y : Int32, y = x609_5 + 1 := ⟨_, rfl⟩
                have tv637 := z_add ev637 rfl (by decide : (1 : Int32).toInt = 1) (by omega) (by omega)
                refine lv_iinc (v := v637) (lv' := [(5, .int v637), (6, .int 1), (3, .long x609_3), (0, .ref (g 11 9)), (1, .int a), (2, .int b)]) hx hb dX6_standing_81 hl (k := 1) rfl (by rw [ev637]; rfl) (by decide) rfl (fun ls hl => ?_)
                refine lv_goto (tgt := 5) hx hb dX6_standing_84 (by decide) ?_
                exact ih610 v637 x609_3 ⟨by omega, by omega⟩ (show (x609_3 : Int64) = smL (fun q : Nat => ((fa 6 4) q).toInt ≤ (a).toInt ∧ (((fa 6 5) q).toInt = -1 ∨ (a).toInt < ((fa 6 5) q).toInt) ∧ ((fa 6 0) q).toInt = (b).toInt) (fa 6 2) ((v637 : Int32).toInt).toNat from (by
                      have z9_4 := congrArg Int32.toInt (show v612 = fa 6 4 ((x609_5 : Int32).toInt).toNat from ev612)
                      have z9_5 := congrArg Int32.toInt (show v619 = fa 6 5 ((x609_5 : Int32).toInt).toNat from ev619)
                      have z9_0 := congrArg Int32.toInt (show v635 = fa 6 0 ((x609_5 : Int32).toInt).toNat from ev635)
                      have hs9 : ((v637 : Int32).toInt).toNat = ((x609_5 : Int32).toInt).toNat + 1 := by omega
                      rw [smL_n hs9 (show ¬ (((fa 6 4) ((x609_5 : Int32).toInt).toNat).toInt ≤ a.toInt ∧ (((fa 6 5) ((x609_5 : Int32).toInt).toNat).toInt = -1 ∨ a.toInt < ((fa 6 5) ((x609_5 : Int32).toInt).toNat).toInt) ∧ ((fa 6 0) ((x609_5 : Int32).toInt).toNat).toInt = b.toInt) from by omega)]; exact hq610_0)) (show (v637 : Int32).toInt ≤ ((iv 6 7) : Int32).toInt from by omega) (by omega) ls (lv_sub hl [0, 2, 3, 4, 5] rfl)
              · have fc636 := z_eq (rfl : (v635).toInt = _) (rfl : (b).toInt = _) c636
                refine lv_iload hx hb dX6_standing_65 (lv_at hl 0 rfl) ?_
                refine lv_if_eq (tgt := 81) hx hb dX6_standing_67 (by decide) (fun c638 => ?_) (fun c638 => ?_)
                · exact absurd c638 (by decide)
                · skip
                  refine lv_lload_n hx hb dX6_standing_70 rfl (lv_at hl 2 rfl) ?_
                  refine lv_aload_n hx hb dX6_standing_71 rfl (lv_at hl 3 rfl) ?_
                  refine gX_6_2 hx hb ht hown hK hP m_387 dX6_standing_72 ?_
                  refine lv_iload hx hb dX6_standing_75 (lv_at hl 1 rfl) ?_
                  refine lX_6_2 hx hb hK hP (f := (fa 6 2)) rfl (vp_in_iff.mpr ⟨by omega, by omega⟩) dX6_standing_77 ?_
                  refine lv_topi (fun v639 ev639 => ?_)
                  refine lv_i2l (v := (v639.toInt64)) hx hb dX6_standing_78 rfl ?_
                  refine lv_ladd hx hb dX6_standing_79 ?_
                  refine lv_topl (fun w640 ew640 => ?_)
                  refine lv_lstore_n (lv' := [(3, .long w640), (6, .int 1), (5, .int x609_5), (0, .ref (g 11 9)), (1, .int a), (2, .int b)]) hx hb dX6_standing_80 rfl hl (by decide) rfl (fun ls hl => ?_)
                  obtain ⟨v641, ev641⟩ : ∃ y : Int32, y = x609_5 + 1 := ⟨_, rfl⟩
                  have tv641 := z_add ev641 rfl (by decide : (1 : Int32).toInt = 1) (by omega) (by omega)
                  refine lv_iinc (v := v641) (lv' := [(5, .int v641), (3, .long w640), (6, .int 1), (0, .ref (g 11 9)), (1, .int a), (2, .int b)]) hx hb dX6_standing_81 hl (k := 2) rfl (by rw [ev641]; rfl) (by decide) rfl (fun ls hl => ?_)
                  refine lv_goto (tgt := 5) hx hb dX6_standing_84 (by decide) ?_
                  exact ih610 v641 w640 ⟨by omega, by omega⟩ (show (w640 : Int64) = smL (fun q : Nat => ((fa 6 4) q).toInt ≤ (a).toInt ∧ (((fa 6 5) q).toInt = -1 ∨ (a).toInt < ((fa 6 5) q).toInt) ∧ ((fa 6 0) q).toInt = (b).toInt) (fa 6 2) ((v641 : Int32).toInt).toNat from (by
                        have z9_4 := congrArg Int32.toInt (show v612 = fa 6 4 ((x609_5 : Int32).toInt).toNat from ev612)
                        have z9_5 := congrArg Int32.toInt (show v619 = fa 6 5 ((x609_5 : Int32).toInt).toNat from ev619)
                        have z9_0 := congrArg Int32.toInt (show v635 = fa 6 0 ((x609_5 : Int32).toInt).toNat from ev635)
                        have hs9 : ((v641 : Int32).toInt).toNat = ((x609_5 : Int32).toInt).toNat + 1 := by omega
                        rw [smL_y hs9 (show ((fa 6 4) ((x609_5 : Int32).toInt).toNat).toInt ≤ a.toInt ∧ (((fa 6 5) ((x609_5 : Int32).toInt).toNat).toInt = -1 ∨ a.toInt < ((fa 6 5) ((x609_5 : Int32).toInt).toNat).toInt) ∧ ((fa 6 0) ((x609_5 : Int32).toInt).toNat).toInt = b.toInt from by omega), ← hq610_0, ew640, show v639 = fa 6 2 ((x609_5 : Int32).toInt).toNat from ev639])) (show (v641 : Int32).toInt ≤ ((iv 6 7) : Int32).toInt from by omega) (by omega) ls (lv_sub hl [0, 1, 3, 4, 5] rfl)
  have : (0 : Int32).toInt = 0 := (by decide)
  have : (0 : Int64).toInt = 0 := (by decide)
  have i_6_7 : 0 ≤ (iv 6 7).toInt ∧ (iv 6 7).toInt ≤ 40 := hI.1 6 7
  exact lp610 41 0 0 ⟨by decide, by decide⟩ (show (0 : Int64) = smL (fun q : Nat => ((fa 6 4) q).toInt ≤ (a).toInt ∧ (((fa 6 5) q).toInt = -1 ∨ (a).toInt < ((fa 6 5) q).toInt) ∧ ((fa 6 0) q).toInt = (b).toInt) (fa 6 2) ((0 : Int32).toInt).toNat from (by have hz : ((0 : Int32).toInt).toNat = 0 := (by decide); rw [hz]; rfl)) (show (0 : Int32).toInt ≤ ((iv 6 7) : Int32).toInt from by omega) (by first | decide | omega) ls (lv_sub hl [0, 1, 2, 3, 4] rfl)
set_option maxHeartbeats 4000000 in
set_option maxRecDepth 100000 in
/-- X11_stood -/
theorem c_X11_stood_w (l : Launch) (dC : Nat → ClassId) (dI : Nat → Nat → Nat) (h : Nat) (g : Nat → Nat → Nat) (ca : Nat → Nat → ClassId) (iv : Nat → Nat → Int32) (lv : Nat → Nat → Int64) (fa : Nat → Nat → Nat → Int32) (la : Nat → Nat → Nat → Int64) (hI : IX iv fa) (a : Int32) (b : Int32) : Met l yX11_stood (wc yX11_stood cX11_stood 3 (some .long)) ({ frames := 1, cells := 0, slots := 0, locals := 26 } : Room) (pR (dC, dI) classes (WX h g ca iv lv fa la) (TX ca) [.ref h, .int a, .int b]) (vp_Sl (fun r => (True) ∧ (((r.toInt = -100002 ∧ ¬ (0 ≤ a.toInt ∧ a.toInt ≤ (iv 11 10).toInt ∧ 0 ≤ b.toInt ∧ b.toInt ≤ 1)) ∨ ((0 ≤ a.toInt ∧ a.toInt ≤ (iv 11 10).toInt ∧ 0 ≤ b.toInt ∧ b.toInt ≤ 1) ∧ r.toInt = (smL (fun q : Nat => ((fa 6 4) q).toInt ≤ a.toInt ∧ (((fa 6 5) q).toInt = -1 ∨ a.toInt < ((fa 6 5) q).toInt) ∧ ((fa 6 0) q).toInt = 1 - b.toInt) (fa 6 2) ((iv 6 7).toInt).toNat).toInt))))) 0 0 (fun _ => False) := by
  refine Met.ofW (cc := cX11_stood) (maxL := 3) (ret := (some .long)) (by decide) rfl ?_
  intro p e s m args below meth c s₁ B hml hv
  obtain ⟨rfl, hP, hK⟩ := hv
  have hx := B.exec
  have hb := B.bytes
  have hr := B.returns
  have ht := tb_tl (atoms_spec (ws := wc yX11_stood cX11_stood 3 (some .long)) B.pre)
  have hown : s.vm.findClass RX11 = some m.cls := findClass_of_methodNamed B.named
  have hlocks := B.notSynchronized
  have hl := lv_entry [.ref h, .int a, .int b] (n := 3) (Nat.le_of_ble_eq_true rfl)
  rw [lg_entry_eq]
  generalize (lg_sl [.ref h, .int a, .int b] ++ List.replicate (3 - (lg_sl [.ref h, .int a, .int b]).length) Slot.unset).toArray = ls at hl ⊢
  have hl : lv_has ls 3 [(0, .ref h), (1, .int a), (2, .int b)] := hl
  refine lv_iload_n hx hb dX11_stood_0 rfl (lv_at hl 1 rfl) ?_
  refine lv_iconst (v := 0) hx hb dX11_stood_1 (by decide) ?_
  refine lv_aload_n hx hb dX11_stood_2 rfl (lv_at hl 0 rfl) ?_
  have i_11_10 : 0 ≤ (iv 11 10).toInt ∧ (iv 11 10).toInt ≤ 3000 := hI.1 11 10
  refine gX_11_10 hx hb ht hown hK hP m_425 (v := (iv 11 10)) rfl dX11_stood_3 ?_
  refine vp_callSi (W.runS (As := [.int a, .int 0, .int (iv 11 10)]) (rest := []) ⟨hx, hb, hml, hown, ht⟩ (c_X11_within l dC dI a 0 (iv 11 10) (a.toInt) (0) ((iv 11 10).toInt) (rfl : (a).toInt = _) (by decide : (0 : Int32).toInt = 0) (rfl : ((iv 11 10)).toInt = _)) (kS 3 ht m_453 m_454 m_77 m_455 rfl rfl hd_X11_within_v ⟨Nat.le_of_ble_eq_true rfl, Nat.le_of_ble_eq_true rfl⟩) (sR noP (hK.sub (tys' := []) [] rfl)) rfl rfl hl.1 rfl (lv_room (Nat.le_of_ble_eq_true rfl)) dX11_stood_6 ⟨Nat.le_of_ble_eq_true rfl, Nat.le_of_ble_eq_true rfl⟩) (fun r1 hr1 => ?_)
  rcases hr1 with ⟨rfl, fr1⟩ | ⟨rfl, fr1⟩
  · skip
    refine lv_if_eq (tgt := 21) hx hb dX11_stood_9 (by decide) (fun c2 => ?_) (fun c2 => ?_)
    · exact absurd c2 (by decide)
    · skip
      refine lv_iload_n hx hb dX11_stood_12 rfl (lv_at hl 2 rfl) ?_
      refine lv_iconst (v := 0) hx hb dX11_stood_13 (by decide) ?_
      refine lv_iconst (v := 1) hx hb dX11_stood_14 (by decide) ?_
      refine vp_callSi (W.runS (As := [.int b, .int 0, .int 1]) (rest := []) ⟨hx, hb, hml, hown, ht⟩ (c_X11_within l dC dI b 0 1 (b.toInt) (0) (1) (rfl : (b).toInt = _) (by decide : (0 : Int32).toInt = 0) (by decide : (1 : Int32).toInt = 1)) (kS 3 ht m_453 m_454 m_77 m_455 rfl rfl hd_X11_within_v ⟨Nat.le_of_ble_eq_true rfl, Nat.le_of_ble_eq_true rfl⟩) (sR noP (hK.sub (tys' := []) [] rfl)) rfl rfl hl.1 rfl (lv_room (Nat.le_of_ble_eq_true rfl)) dX11_stood_15 ⟨Nat.le_of_ble_eq_true rfl, Nat.le_of_ble_eq_true rfl⟩) (fun r3 hr3 => ?_)
      rcases hr3 with ⟨rfl, fr3⟩ | ⟨rfl, fr3⟩
      · skip
        refine lv_if_ne (tgt := 25) hx hb dX11_stood_18 (by decide) (fun c4 => ?_) (fun c4 => ?_)
        · skip
          refine lv_aload_n hx hb dX11_stood_25 rfl (lv_at hl 0 rfl) ?_
          refine gX_11_9 hx hb ht hown hK hP m_424 dX11_stood_26 ?_
          refine lv_iload_n hx hb dX11_stood_29 rfl (lv_at hl 1 rfl) ?_
          refine lv_iload_n hx hb dX11_stood_30 rfl (lv_at hl 2 rfl) ?_
          refine lv_if_ne (tgt := 38) hx hb dX11_stood_31 (by decide) (fun c5 => ?_) (fun c5 => ?_)
          · have fc5 := z_ne (rfl : (b).toInt = _) (by decide : (0 : Int32).toInt = 0) c5
            refine lv_iconst (v := 0) hx hb dX11_stood_38 (by decide) ?_
            refine vp_callSl (W.runV (As := [.int a, .int 0]) (rest := []) ⟨hx, hb, hml, hown, ht⟩ (c_X6_standing_w l dC dI h g ca iv lv fa la hI a 0) (kV 2 ht m_1129 m_1130 m_1131 m_88 m_1132 rfl rfl hd_X6_standing_v ⟨Nat.le_of_ble_eq_true rfl, Nat.le_of_ble_eq_true rfl⟩) (vR hP hK (rX_6 hK hP)) rfl rfl hl.1 rfl (lv_room (Nat.le_of_ble_eq_true rfl)) dX11_stood_39 ⟨Nat.le_of_ble_eq_true rfl, Nat.le_of_ble_eq_true rfl⟩) (fun r6 hr6 => ?_)
            obtain ⟨hr6, xr6_0⟩ := hr6
            have : (0 : Int32).toInt = 0 := (by decide)
            have i_6_7 : 0 ≤ (iv 6 7).toInt ∧ (iv 6 7).toInt ≤ 40 := hI.1 6 7
            have xr6_0 : (r6 : Int64).toInt = (smL (fun q : Nat => ((fa 6 4) q).toInt ≤ (a : Int32).toInt ∧ (((fa 6 5) q).toInt = -1 ∨ (a : Int32).toInt < ((fa 6 5) q).toInt) ∧ ((fa 6 0) q).toInt = (0 : Int32).toInt) (fa 6 2) (((iv 6 7) : Int32).toInt).toNat).toInt := xr6_0
            exact W.lret (v := r6) hx hb hr (fun t ht9 hW => ⟨r6, rfl, ⟨trivial, (show (((r6 : Int64).toInt = -100002 ∧ ¬ (0 ≤ (a).toInt ∧ (a).toInt ≤ (iv 11 10).toInt ∧ 0 ≤ (b).toInt ∧ (b).toInt ≤ 1)) ∨ ((0 ≤ (a).toInt ∧ (a).toInt ≤ (iv 11 10).toInt ∧ 0 ≤ (b).toInt ∧ (b).toInt ≤ 1) ∧ (r6 : Int64).toInt = (smL (fun q : Nat => ((fa 6 4) q).toInt ≤ (a).toInt ∧ (((fa 6 5) q).toInt = -1 ∨ (a).toInt < ((fa 6 5) q).toInt) ∧ ((fa 6 0) q).toInt = 1 - (b).toInt) (fa 6 2) ((iv 6 7).toInt).toNat).toInt)) from (by have hx9 := xr6_0; rw [show (0 : Int32).toInt = 1 - b.toInt from by omega] at hx9; exact Or.inr ⟨⟨by omega, by omega, by omega, by omega⟩, hx9⟩))⟩, ht9⟩) (fun q hq => by cases hq) dX11_stood_42
          · have fc5 := z_eq (rfl : (b).toInt = _) (by decide : (0 : Int32).toInt = 0) c5
            refine lv_iconst (v := 1) hx hb dX11_stood_34 (by decide) ?_
            refine lv_goto (tgt := 39) hx hb dX11_stood_35 (by decide) ?_
            refine vp_callSl (W.runV (As := [.int a, .int 1]) (rest := []) ⟨hx, hb, hml, hown, ht⟩ (c_X6_standing_w l dC dI h g ca iv lv fa la hI a 1) (kV 2 ht m_1129 m_1130 m_1131 m_88 m_1132 rfl rfl hd_X6_standing_v ⟨Nat.le_of_ble_eq_true rfl, Nat.le_of_ble_eq_true rfl⟩) (vR hP hK (rX_6 hK hP)) rfl rfl hl.1 rfl (lv_room (Nat.le_of_ble_eq_true rfl)) dX11_stood_39 ⟨Nat.le_of_ble_eq_true rfl, Nat.le_of_ble_eq_true rfl⟩) (fun r7 hr7 => ?_)
            obtain ⟨hr7, xr7_0⟩ := hr7
            have : (1 : Int32).toInt = 1 := (by decide)
            have i_6_7 : 0 ≤ (iv 6 7).toInt ∧ (iv 6 7).toInt ≤ 40 := hI.1 6 7
            have xr7_0 : (r7 : Int64).toInt = (smL (fun q : Nat => ((fa 6 4) q).toInt ≤ (a : Int32).toInt ∧ (((fa 6 5) q).toInt = -1 ∨ (a : Int32).toInt < ((fa 6 5) q).toInt) ∧ ((fa 6 0) q).toInt = (1 : Int32).toInt) (fa 6 2) (((iv 6 7) : Int32).toInt).toNat).toInt := xr7_0
            exact W.lret (v := r7) hx hb hr (fun t ht9 hW => ⟨r7, rfl, ⟨trivial, (show (((r7 : Int64).toInt = -100002 ∧ ¬ (0 ≤ (a).toInt ∧ (a).toInt ≤ (iv 11 10).toInt ∧ 0 ≤ (b).toInt ∧ (b).toInt ≤ 1)) ∨ ((0 ≤ (a).toInt ∧ (a).toInt ≤ (iv 11 10).toInt ∧ 0 ≤ (b).toInt ∧ (b).toInt ≤ 1) ∧ (r7 : Int64).toInt = (smL (fun q : Nat => ((fa 6 4) q).toInt ≤ (a).toInt ∧ (((fa 6 5) q).toInt = -1 ∨ (a).toInt < ((fa 6 5) q).toInt) ∧ ((fa 6 0) q).toInt = 1 - (b).toInt) (fa 6 2) ((iv 6 7).toInt).toNat).toInt)) from (by have hx9 := xr7_0; rw [show (1 : Int32).toInt = 1 - b.toInt from by omega] at hx9; exact Or.inr ⟨⟨by omega, by omega, by omega, by omega⟩, hx9⟩))⟩, ht9⟩) (fun q hq => by cases hq) dX11_stood_42
        · exact absurd c4 (by decide)
      · skip
        refine lv_if_ne (tgt := 25) hx hb dX11_stood_18 (by decide) (fun c8 => ?_) (fun c8 => ?_)
        · exact absurd rfl c8
        · skip
          refine lv_ldc2 hx hb hown (ht _ m_838) dX11_stood_21 ?_
          have : ((-100002) : Int64).toInt = (-100002) := (by decide)
          exact W.lret (v := (-100002)) hx hb hr (fun t ht9 hW => ⟨(-100002), rfl, ⟨trivial, (show ((((-100002) : Int64).toInt = -100002 ∧ ¬ (0 ≤ (a).toInt ∧ (a).toInt ≤ (iv 11 10).toInt ∧ 0 ≤ (b).toInt ∧ (b).toInt ≤ 1)) ∨ ((0 ≤ (a).toInt ∧ (a).toInt ≤ (iv 11 10).toInt ∧ 0 ≤ (b).toInt ∧ (b).toInt ≤ 1) ∧ ((-100002) : Int64).toInt = (smL (fun q : Nat => ((fa 6 4) q).toInt ≤ (a).toInt ∧ (((fa 6 5) q).toInt = -1 ∨ (a).toInt < ((fa 6 5) q).toInt) ∧ ((fa 6 0) q).toInt = 1 - (b).toInt) (fa 6 2) ((iv 6 7).toInt).toNat).toInt)) from Or.inl ⟨by omega, by omega⟩)⟩, ht9⟩) (fun q hq => by cases hq) dX11_stood_24
  · skip
    refine lv_if_eq (tgt := 21) hx hb dX11_stood_9 (by decide) (fun c9 => ?_) (fun c9 => ?_)
    · skip
      refine lv_ldc2 hx hb hown (ht _ m_838) dX11_stood_21 ?_
      have : ((-100002) : Int64).toInt = (-100002) := (by decide)
      exact W.lret (v := (-100002)) hx hb hr (fun t ht9 hW => ⟨(-100002), rfl, ⟨trivial, (show ((((-100002) : Int64).toInt = -100002 ∧ ¬ (0 ≤ (a).toInt ∧ (a).toInt ≤ (iv 11 10).toInt ∧ 0 ≤ (b).toInt ∧ (b).toInt ≤ 1)) ∨ ((0 ≤ (a).toInt ∧ (a).toInt ≤ (iv 11 10).toInt ∧ 0 ≤ (b).toInt ∧ (b).toInt ≤ 1) ∧ ((-100002) : Int64).toInt = (smL (fun q : Nat => ((fa 6 4) q).toInt ≤ (a).toInt ∧ (((fa 6 5) q).toInt = -1 ∨ (a).toInt < ((fa 6 5) q).toInt) ∧ ((fa 6 0) q).toInt = 1 - (b).toInt) (fa 6 2) ((iv 6 7).toInt).toNat).toInt)) from Or.inl ⟨by omega, by omega⟩)⟩, ht9⟩) (fun q hq => by cases hq) dX11_stood_24
    · exact absurd rfl c9
set_option maxHeartbeats 4000000 in
set_option maxRecDepth 100000 in
/-- X12_stood -/
theorem c_X12_stood_w (l : Launch) (dC : Nat → ClassId) (dI : Nat → Nat → Nat) (h : Nat) (g : Nat → Nat → Nat) (ca : Nat → Nat → ClassId) (iv : Nat → Nat → Int32) (lv : Nat → Nat → Int64) (fa : Nat → Nat → Nat → Int32) (la : Nat → Nat → Nat → Int64) (hI : IX iv fa) (a : Int32) (b : Int32) : Met l yX12_stood (wc yX12_stood cX12_stood 7 (some .long)) ({ frames := 2, cells := 0, slots := 0, locals := 46 } : Room) (pR (dC, dI) classes (WM h g ca iv lv fa la) (TM ca) [.ref h, .int a, .int b]) (vp_Sl (fun r => (True) ∧ (((r.toInt = -100002 ∧ ¬ (0 ≤ a.toInt ∧ a.toInt ≤ (iv 12 0).toInt ∧ 0 ≤ b.toInt ∧ b.toInt ≤ 1)) ∨ ((0 ≤ a.toInt ∧ a.toInt ≤ (iv 12 0).toInt ∧ 0 ≤ b.toInt ∧ b.toInt ≤ 1) ∧ r.toInt = (smW (fun q : Nat => ((fa 12 72) q).toInt ≤ a.toInt ∧ (((fa 12 73) q).toInt < 0 ∨ a.toInt < ((fa 12 73) q).toInt) ∧ ((fa 12 68) q).toInt = 1 - b.toInt) (la 12 70) ((iv 12 67).toInt).toNat).toInt))))) 0 0 (fun _ => False) := by
  refine Met.ofW (cc := cX12_stood) (maxL := 7) (ret := (some .long)) (by decide) rfl ?_
  intro p e s m args below meth c s₁ B hml hv
  obtain ⟨rfl, hP, hK⟩ := hv
  have hx := B.exec
  have hb := B.bytes
  have hr := B.returns
  have ht := tb_tl (atoms_spec (ws := wc yX12_stood cX12_stood 7 (some .long)) B.pre)
  have hown : s.vm.findClass RX12 = some m.cls := findClass_of_methodNamed B.named
  have hlocks := B.notSynchronized
  have hl := lv_entry [.ref h, .int a, .int b] (n := 7) (Nat.le_of_ble_eq_true rfl)
  rw [lg_entry_eq]
  generalize (lg_sl [.ref h, .int a, .int b] ++ List.replicate (7 - (lg_sl [.ref h, .int a, .int b]).length) Slot.unset).toArray = ls at hl ⊢
  have hl : lv_has ls 7 [(0, .ref h), (1, .int a), (2, .int b)] := hl
  refine lv_aload_n hx hb dX12_stood_0 rfl (lv_at hl 0 rfl) ?_
  refine lv_iload_n hx hb dX12_stood_1 rfl (lv_at hl 1 rfl) ?_
  refine vp_callSi (W.runV (As := [.int a]) (rest := []) ⟨hx, hb, hml, hown, ht⟩ (c_X12_isPast l dC dI h g ca iv lv fa la hI a) (kV 1 ht m_1528 m_1530 m_57 m_89 m_1531 rfl rfl hd_X12_isPast_v ⟨Nat.le_of_ble_eq_true rfl, Nat.le_of_ble_eq_true rfl⟩) (vR hP hK (rM_12 hK hP)) rfl rfl hl.1 rfl (lv_room (Nat.le_of_ble_eq_true rfl)) dX12_stood_2 ⟨Nat.le_of_ble_eq_true rfl, Nat.le_of_ble_eq_true rfl⟩) (fun r1 hr1 => ?_)
  rcases hr1 with ⟨rfl, fr1⟩ | ⟨rfl, fr1⟩
  · skip
    refine lv_if_eq (tgt := 18) hx hb dX12_stood_5 (by decide) (fun c2 => ?_) (fun c2 => ?_)
    · exact absurd c2 (by decide)
    · skip
      refine lv_iload_n hx hb dX12_stood_8 rfl (lv_at hl 2 rfl) ?_
      refine lv_i2l (v := (b.toInt64)) hx hb dX12_stood_9 rfl ?_
      refine lv_lconst (v := 0) hx hb dX12_stood_10 (by decide) ?_
      refine lv_lconst (v := 1) hx hb dX12_stood_11 (by decide) ?_
      refine vp_callSi (W.runS (As := [.long (b.toInt64), .long 0, .long 1]) (rest := []) ⟨hx, hb, hml, hown, ht⟩ (c_X12_in l dC dI (b.toInt64) 0 1 (b.toInt) (0) (1) ((Int32.toInt_toInt64 b).trans rfl) (by decide : (0 : Int64).toInt = 0) (by decide : (1 : Int64).toInt = 1)) (kS 3 ht m_1370 m_1371 m_89 m_1372 rfl rfl hd_X12_in_v ⟨Nat.le_of_ble_eq_true rfl, Nat.le_of_ble_eq_true rfl⟩) (sR noP (hK.sub (tys' := []) [] rfl)) rfl rfl hl.1 rfl (lv_room (Nat.le_of_ble_eq_true rfl)) dX12_stood_12 ⟨Nat.le_of_ble_eq_true rfl, Nat.le_of_ble_eq_true rfl⟩) (fun r3 hr3 => ?_)
      rcases hr3 with ⟨rfl, fr3⟩ | ⟨rfl, fr3⟩
      · skip
        refine lv_if_ne (tgt := 22) hx hb dX12_stood_15 (by decide) (fun c4 => ?_) (fun c4 => ?_)
        · skip
          refine lv_lconst (v := 0) hx hb dX12_stood_22 (by decide) ?_
          refine lv_lstore_n (lv' := [(3, .long 0), (0, .ref h), (1, .int a), (2, .int b)]) hx hb dX12_stood_23 rfl hl (by decide) rfl (fun ls hl => ?_)
          refine lv_iconst (v := 0) hx hb dX12_stood_24 (by decide) ?_
          refine lv_istore (lv' := [(5, .int 0), (3, .long 0), (0, .ref h), (1, .int a), (2, .int b)]) hx hb dX12_stood_25 hl (by decide) rfl (fun ls hl => ?_)
          have i_12_67 : 0 ≤ (iv 12 67).toInt ∧ (iv 12 67).toInt ≤ 40 := hI.1 12 67
          have lp614 : ∀ (nn614 : Nat) (x613_5 : Int32) (x613_3 : Int64), 0 ≤ x613_5.toInt ∧ x613_5.toInt ≤ 40 → ((x613_3 : Int64) = smW (fun q : Nat => ((fa 12 72) q).toInt ≤ (a).toInt ∧ (((fa 12 73) q).toInt < 0 ∨ (a).toInt < ((fa 12 73) q).toInt) ∧ ((fa 12 68) q).toInt = 1 - (b).toInt) (la 12 70) ((x613_5 : Int32).toInt).toNat) → (x613_5 : Int32).toInt ≤ ((iv 12 67) : Int32).toInt → 40 - x613_5.toInt < (nn614 : Int) → ∀ (ls : Array Slot), lv_has ls 7 [(5, .int x613_5), (3, .long x613_3), (0, .ref h), (1, .int a), (2, .int b)] → W p l e ({ frames := 2, cells := 0, slots := 0, locals := 46 } : Room) s m ([.ref h, .int a, .int b] : List Value).toArray below meth c s.heap [] 0 0 (MQ below (vp_Sl (fun r => (True) ∧ (((r.toInt = -100002 ∧ ¬ (0 ≤ a.toInt ∧ a.toInt ≤ (iv 12 0).toInt ∧ 0 ≤ b.toInt ∧ b.toInt ≤ 1)) ∨ ((0 ≤ a.toInt ∧ a.toInt ≤ (iv 12 0).toInt ∧ 0 ≤ b.toInt ∧ b.toInt ≤ 1) ∧ r.toInt = (smW (fun q : Nat => ((fa 12 72) q).toInt ≤ a.toInt ∧ (((fa 12 73) q).toInt < 0 ∨ a.toInt < ((fa 12 73) q).toInt) ∧ ((fa 12 68) q).toInt = 1 - b.toInt) (la 12 70) ((iv 12 67).toInt).toNat).toInt))))) ([.ref h, .int a, .int b] : List Value).toArray s 0 0 (fun _ => False)) (F0 m 27 ls []) := by
            intro nn614
            induction nn614 with
            | zero => intro x613_5 x613_3 hx613_5 hq614_0 hq614_1 hm614; exfalso; omega
            | succ nn614 ih614 =>
              intro x613_5 x613_3 hx613_5 hq614_0 hq614_1 hm614 ls hl
              refine lv_iload hx hb dX12_stood_27 (lv_at hl 0 rfl) ?_
              refine lv_aload_n hx hb dX12_stood_29 rfl (lv_at hl 2 rfl) ?_
              refine gM_12_67 hx hb ht hown hK hP m_1206 (v := (iv 12 67)) rfl dX12_stood_30 ?_
              refine lv_icmp_ge (tgt := 113) hx hb dX12_stood_33 (by decide) (fun c615 => ?_) (fun c615 => ?_)
              · have fc615 := z_le (rfl : ((iv 12 67)).toInt = _) (rfl : (x613_5).toInt = _) c615
                refine lv_lload_n hx hb dX12_stood_113 rfl (lv_at hl 1 rfl) ?_
                exact W.lret (v := x613_3) hx hb hr (fun t ht9 hW => ⟨x613_3, rfl, ⟨trivial, (show (((x613_3 : Int64).toInt = -100002 ∧ ¬ (0 ≤ (a).toInt ∧ (a).toInt ≤ (iv 12 0).toInt ∧ 0 ≤ (b).toInt ∧ (b).toInt ≤ 1)) ∨ ((0 ≤ (a).toInt ∧ (a).toInt ≤ (iv 12 0).toInt ∧ 0 ≤ (b).toInt ∧ (b).toInt ≤ 1) ∧ (x613_3 : Int64).toInt = (smW (fun q : Nat => ((fa 12 72) q).toInt ≤ (a).toInt ∧ (((fa 12 73) q).toInt < 0 ∨ (a).toInt < ((fa 12 73) q).toInt) ∧ ((fa 12 68) q).toInt = 1 - (b).toInt) (la 12 70) ((iv 12 67).toInt).toNat).toInt)) from Or.inr ⟨⟨by omega, by omega, by omega, by omega⟩, (by have hq9 := hq614_0; have he9 : (x613_5 : Int32).toInt = (iv 12 67).toInt := (by omega); rw [he9] at hq9; exact congrArg Int64.toInt hq9)⟩)⟩, ht9⟩) (fun q hq => by cases hq) dX12_stood_114
              · have fc615 := z_nle (rfl : ((iv 12 67)).toInt = _) (rfl : (x613_5).toInt = _) c615
                refine lv_aload_n hx hb dX12_stood_36 rfl (lv_at hl 2 rfl) ?_
                refine gM_12_72 hx hb ht hown hK hP m_1211 dX12_stood_37 ?_
                refine lv_iload hx hb dX12_stood_40 (lv_at hl 0 rfl) ?_
                refine lM_12_72 hx hb hK hP (f := (fa 12 72)) rfl (vp_in_iff.mpr ⟨by omega, by omega⟩) dX12_stood_42 ?_
                refine lv_topi (fun v616 ev616 => ?_)
                refine lv_iload_n hx hb dX12_stood_43 rfl (lv_at hl 3 rfl) ?_
                refine lv_icmp_gt (tgt := 72) hx hb dX12_stood_44 (by decide) (fun c617 => ?_) (fun c617 => ?_)
                · have fc617 := z_lt (rfl : (a).toInt = _) (rfl : (v616).toInt = _) c617
                  refine lv_iconst (v := 0) hx hb dX12_stood_72 (by decide) ?_
                  refine lv_istore (lv' := [(6, .int 0), (5, .int x613_5), (3, .long x613_3), (0, .ref h), (1, .int a), (2, .int b)]) hx hb dX12_stood_73 hl (by decide) rfl (fun ls hl => ?_)
                  refine lv_lload_n hx hb dX12_stood_75 rfl (lv_at hl 2 rfl) ?_
                  refine lv_iload hx hb dX12_stood_76 (lv_at hl 0 rfl) ?_
                  refine lv_if_eq (tgt := 104) hx hb dX12_stood_78 (by decide) (fun c618 => ?_) (fun c618 => ?_)
                  · skip
                    refine lv_lconst (v := 0) hx hb dX12_stood_104 (by decide) ?_
                    refine lv_ladd hx hb dX12_stood_105 ?_
                    refine lv_topl (fun w619 ew619 => ?_)
                    refine lv_lstore_n (lv' := [(3, .long w619), (6, .int 0), (5, .int x613_5), (0, .ref h), (1, .int a), (2, .int b)]) hx hb dX12_stood_106 rfl hl (by decide) rfl (fun ls hl => ?_)
                    obtain ⟨v620, ev620⟩ : ∃ y : Int32, y = x613_5 + 1 := ⟨_, rfl⟩
                    have tv620 := z_add ev620 rfl (by decide : (1 : Int32).toInt = 1) (by omega) (by omega)
                    refine lv_iinc (v := v620) (lv' := [(5, .int v620), (3, .long w619), (6, .int 0), (0, .ref h), (1, .int a), (2, .int b)]) hx hb dX12_stood_107 hl (k := 2) rfl (by rw [ev620]; rfl) (by decide) rfl (fun ls hl => ?_)
                    refine lv_goto (tgt := 27) hx hb dX12_stood_110 (by decide) ?_
                    exact ih614 v620 w619 ⟨by omega, by omega⟩ (show (w619 : Int64) = smW (fun q : Nat => ((fa 12 72) q).toInt ≤ (a).toInt ∧ (((fa 12 73) q).toInt < 0 ∨ (a).toInt < ((fa 12 73) q).toInt) ∧ ((fa 12 68) q).toInt = 1 - (b).toInt) (la 12 70) ((v620 : Int32).toInt).toNat from (by
                          have z9_72 := congrArg Int32.toInt (show v616 = fa 12 72 ((x613_5 : Int32).toInt).toNat from ev616)
                          have hs9 : ((v620 : Int32).toInt).toNat = ((x613_5 : Int32).toInt).toNat + 1 := by omega
                          rw [smW_n hs9 (show ¬ (((fa 12 72) ((x613_5 : Int32).toInt).toNat).toInt ≤ a.toInt ∧ (((fa 12 73) ((x613_5 : Int32).toInt).toNat).toInt < 0 ∨ a.toInt < ((fa 12 73) ((x613_5 : Int32).toInt).toNat).toInt) ∧ ((fa 12 68) ((x613_5 : Int32).toInt).toNat).toInt = 1 - b.toInt) from by omega), ← hq614_0, ew619]; exact Int64.add_zero _)) (show (v620 : Int32).toInt ≤ ((iv 12 67) : Int32).toInt from by omega) (by omega) ls (lv_sub hl [0, 1, 3, 4, 5] rfl)
                  · exact absurd rfl c618
                · have fc617 := z_nlt (rfl : (a).toInt = _) (rfl : (v616).toInt = _) c617
                  refine lv_aload_n hx hb dX12_stood_47 rfl (lv_at hl 2 rfl) ?_
                  refine gM_12_73 hx hb ht hown hK hP m_1212 dX12_stood_48 ?_
                  refine lv_iload hx hb dX12_stood_51 (lv_at hl 0 rfl) ?_
                  refine lM_12_73 hx hb hK hP (f := (fa 12 73)) rfl (vp_in_iff.mpr ⟨by omega, by omega⟩) dX12_stood_53 ?_
                  refine lv_topi (fun v621 ev621 => ?_)
                  refine lv_if_lt (tgt := 68) hx hb dX12_stood_54 (by decide) (fun c622 => ?_) (fun c622 => ?_)
                  · have fc622 := z_lt (rfl : (v621).toInt = _) (by decide : (0 : Int32).toInt = 0) c622
                    refine lv_iconst (v := 1) hx hb dX12_stood_68 (by decide) ?_
                    refine lv_goto (tgt := 73) hx hb dX12_stood_69 (by decide) ?_
                    refine lv_istore (lv' := [(6, .int 1), (5, .int x613_5), (3, .long x613_3), (0, .ref h), (1, .int a), (2, .int b)]) hx hb dX12_stood_73 hl (by decide) rfl (fun ls hl => ?_)
                    refine lv_lload_n hx hb dX12_stood_75 rfl (lv_at hl 2 rfl) ?_
                    refine lv_iload hx hb dX12_stood_76 (lv_at hl 0 rfl) ?_
                    refine lv_if_eq (tgt := 104) hx hb dX12_stood_78 (by decide) (fun c623 => ?_) (fun c623 => ?_)
                    · exact absurd c623 (by decide)
                    · skip
                      refine lv_aload_n hx hb dX12_stood_81 rfl (lv_at hl 3 rfl) ?_
                      refine gM_12_68 hx hb ht hown hK hP m_1207 dX12_stood_82 ?_
                      refine lv_iload hx hb dX12_stood_85 (lv_at hl 1 rfl) ?_
                      refine lM_12_68 hx hb hK hP (f := (fa 12 68)) rfl (vp_in_iff.mpr ⟨by omega, by omega⟩) dX12_stood_87 ?_
                      refine lv_topi (fun v624 ev624 => ?_)
                      refine lv_iconst (v := 1) hx hb dX12_stood_88 (by decide) ?_
                      refine lv_iload_n hx hb dX12_stood_89 rfl (lv_at hl 5 rfl) ?_
                      refine lv_isub hx hb dX12_stood_90 ?_
                      refine lv_topi (fun v625 ev625 => ?_)
                      have tv625 := z_sub ev625 (by decide : (1 : Int32).toInt = 1) (rfl : (b).toInt = _) (by omega) (by omega)
                      refine lv_icmp_ne (tgt := 104) hx hb dX12_stood_91 (by decide) (fun c626 => ?_) (fun c626 => ?_)
                      · have fc626 := z_ne (rfl : (v624).toInt = _) (rfl : (v625).toInt = _) c626
                        refine lv_lconst (v := 0) hx hb dX12_stood_104 (by decide) ?_
                        refine lv_ladd hx hb dX12_stood_105 ?_
                        refine lv_topl (fun w627 ew627 => ?_)
                        refine lv_lstore_n (lv' := [(3, .long w627), (6, .int 1), (5, .int x613_5), (0, .ref h), (1, .int a), (2, .int b)]) hx hb dX12_stood_106 rfl hl (by decide) rfl (fun ls hl => ?_)
                        obtain ⟨v628, ev628⟩ : ∃ y : Int32, y = x613_5 + 1 := ⟨_, rfl⟩
                        have tv628 := z_add ev628 rfl (by decide : (1 : Int32).toInt = 1) (by omega) (by omega)
                        refine lv_iinc (v := v628) (lv' := [(5, .int v628), (3, .long w627), (6, .int 1), (0, .ref h), (1, .int a), (2, .int b)]) hx hb dX12_stood_107 hl (k := 2) rfl (by rw [ev628]; rfl) (by decide) rfl (fun ls hl => ?_)
                        refine lv_goto (tgt := 27) hx hb dX12_stood_110 (by decide) ?_
                        exact ih614 v628 w627 ⟨by omega, by omega⟩ (show (w627 : Int64) = smW (fun q : Nat => ((fa 12 72) q).toInt ≤ (a).toInt ∧ (((fa 12 73) q).toInt < 0 ∨ (a).toInt < ((fa 12 73) q).toInt) ∧ ((fa 12 68) q).toInt = 1 - (b).toInt) (la 12 70) ((v628 : Int32).toInt).toNat from (by
                              have z9_72 := congrArg Int32.toInt (show v616 = fa 12 72 ((x613_5 : Int32).toInt).toNat from ev616)
                              have z9_73 := congrArg Int32.toInt (show v621 = fa 12 73 ((x613_5 : Int32).toInt).toNat from ev621)
                              have z9_68 := congrArg Int32.toInt (show v624 = fa 12 68 ((x613_5 : Int32).toInt).toNat from ev624)
                              have hs9 : ((v628 : Int32).toInt).toNat = ((x613_5 : Int32).toInt).toNat + 1 := by omega
                              rw [smW_n hs9 (show ¬ (((fa 12 72) ((x613_5 : Int32).toInt).toNat).toInt ≤ a.toInt ∧ (((fa 12 73) ((x613_5 : Int32).toInt).toNat).toInt < 0 ∨ a.toInt < ((fa 12 73) ((x613_5 : Int32).toInt).toNat).toInt) ∧ ((fa 12 68) ((x613_5 : Int32).toInt).toNat).toInt = 1 - b.toInt) from by omega), ← hq614_0, ew627]; exact Int64.add_zero _)) (show (v628 : Int32).toInt ≤ ((iv 12 67) : Int32).toInt from by omega) (by omega) ls (lv_sub hl [0, 1, 3, 4, 5] rfl)
                      · have fc626 := z_eq (rfl : (v624).toInt = _) (rfl : (v625).toInt = _) c626
                        refine lv_aload_n hx hb dX12_stood_94 rfl (lv_at hl 3 rfl) ?_
                        refine gM_12_70 hx hb ht hown hK hP m_1209 dX12_stood_95 ?_
                        refine lv_iload hx hb dX12_stood_98 (lv_at hl 1 rfl) ?_
                        refine lM_12_70 hx hb hK hP (f := (la 12 70)) rfl (vp_in_iff.mpr ⟨by omega, by omega⟩) dX12_stood_100 ?_
                        refine lv_topl (fun w629 ew629 => ?_)
                        refine lv_goto (tgt := 105) hx hb dX12_stood_101 (by decide) ?_
                        refine lv_ladd hx hb dX12_stood_105 ?_
                        refine lv_topl (fun w630 ew630 => ?_)
                        refine lv_lstore_n (lv' := [(3, .long w630), (6, .int 1), (5, .int x613_5), (0, .ref h), (1, .int a), (2, .int b)]) hx hb dX12_stood_106 rfl hl (by decide) rfl (fun ls hl => ?_)
                        obtain ⟨v631, ev631⟩ : ∃ y : Int32, y = x613_5 + 1 := ⟨_, rfl⟩
                        have tv631 := z_add ev631 rfl (by decide : (1 : Int32).toInt = 1) (by omega) (by omega)
                        refine lv_iinc (v := v631) (lv' := [(5, .int v631), (3, .long w630), (6, .int 1), (0, .ref h), (1, .int a), (2, .int b)]) hx hb dX12_stood_107 hl (k := 2) rfl (by rw [ev631]; rfl) (by decide) rfl (fun ls hl => ?_)
                        refine lv_goto (tgt := 27) hx hb dX12_stood_110 (by decide) ?_
                        exact ih614 v631 w630 ⟨by omega, by omega⟩ (show (w630 : Int64) = smW (fun q : Nat => ((fa 12 72) q).toInt ≤ (a).toInt ∧ (((fa 12 73) q).toInt < 0 ∨ (a).toInt < ((fa 12 73) q).toInt) ∧ ((fa 12 68) q).toInt = 1 - (b).toInt) (la 12 70) ((v631 : Int32).toInt).toNat from (by
                              have z9_72 := congrArg Int32.toInt (show v616 = fa 12 72 ((x613_5 : Int32).toInt).toNat from ev616)
                              have z9_73 := congrArg Int32.toInt (show v621 = fa 12 73 ((x613_5 : Int32).toInt).toNat from ev621)
                              have z9_68 := congrArg Int32.toInt (show v624 = fa 12 68 ((x613_5 : Int32).toInt).toNat from ev624)
                              have hs9 : ((v631 : Int32).toInt).toNat = ((x613_5 : Int32).toInt).toNat + 1 := by omega
                              rw [smW_y hs9 (show ((fa 12 72) ((x613_5 : Int32).toInt).toNat).toInt ≤ a.toInt ∧ (((fa 12 73) ((x613_5 : Int32).toInt).toNat).toInt < 0 ∨ a.toInt < ((fa 12 73) ((x613_5 : Int32).toInt).toNat).toInt) ∧ ((fa 12 68) ((x613_5 : Int32).toInt).toNat).toInt = 1 - b.toInt from by omega), ← hq614_0, ew630, show w629 = la 12 70 ((x613_5 : Int32).toInt).toNat from ew629])) (show (v631 : Int32).toInt ≤ ((iv 12 67) : Int32).toInt from by omega) (by omega) ls (lv_sub hl [0, 1, 3, 4, 5] rfl)
                  · have fc622 := z_nlt (rfl : (v621).toInt = _) (by decide : (0 : Int32).toInt = 0) c622
                    refine lv_aload_n hx hb dX12_stood_57 rfl (lv_at hl 2 rfl) ?_
                    refine gM_12_73 hx hb ht hown hK hP m_1212 dX12_stood_58 ?_
                    refine lv_iload hx hb dX12_stood_61 (lv_at hl 0 rfl) ?_
                    refine lM_12_73 hx hb hK hP (f := (fa 12 73)) rfl (vp_in_iff.mpr ⟨by omega, by omega⟩) dX12_stood_63 ?_
                    refine lv_topi (fun v632 ev632 => ?_)
                    obtain rfl : v621 = v632 := ev621.trans ev632.symm
                    refine lv_iload_n hx hb dX12_stood_64 rfl (lv_at hl 3 rfl) ?_
                    refine lv_icmp_le (tgt := 72) hx hb dX12_stood_65 (by decide) (fun c633 => ?_) (fun c633 => ?_)
                    · have fc633 := z_le (rfl : (v621).toInt = _) (rfl : (a).toInt = _) c633
                      refine lv_iconst (v := 0) hx hb dX12_stood_72 (by decide) ?_
                      refine lv_istore (lv' := [(6, .int 0), (5, .int x613_5), (3, .long x613_3), (0, .ref h), (1, .int a), (2, .int b)]) hx hb dX12_stood_73 hl (by decide) rfl (fun ls hl => ?_)
                      refine lv_lload_n hx hb dX12_stood_75 rfl (lv_at hl 2 rfl) ?_
                      refine lv_iload hx hb dX12_stood_76 (lv_at hl 0 rfl) ?_
                      refine lv_if_eq (tgt := 104) hx hb dX12_stood_78 (by decide) (fun c634 => ?_) (fun c634 => ?_)
                      · skip
                        refine lv_lconst (v := 0) hx hb dX12_stood_104 (by decide) ?_
                        refine lv_ladd hx hb dX12_stood_105 ?_
                        refine lv_topl (fun w635 ew635 => ?_)
                        refine lv_lstore_n (lv' := [(3, .long w635), (6, .int 0), (5, .int x613_5), (0, .ref h), (1, .int a), (2, .int b)]) hx hb dX12_stood_106 rfl hl (by decide) rfl (fun ls hl => ?_)
                        obtain ⟨v636, ev636⟩ : ∃ y : Int32, y = x613_5 + 1 := ⟨_, rfl⟩
                        have tv636 := z_add ev636 rfl (by decide : (1 : Int32).toInt = 1) (by omega) (by omega)
                        refine lv_iinc (v := v636) (lv' := [(5, .int v636), (3, .long w635), (6, .int 0), (0, .ref h), (1, .int a), (2, .int b)]) hx hb dX12_stood_107 hl (k := 2) rfl (by rw [ev636]; rfl) (by decide) rfl (fun ls hl => ?_)
                        refine lv_goto (tgt := 27) hx hb dX12_stood_110 (by decide) ?_
                        exact ih614 v636 w635 ⟨by omega, by omega⟩ (show (w635 : Int64) = smW (fun q : Nat => ((fa 12 72) q).toInt ≤ (a).toInt ∧ (((fa 12 73) q).toInt < 0 ∨ (a).toInt < ((fa 12 73) q).toInt) ∧ ((fa 12 68) q).toInt = 1 - (b).toInt) (la 12 70) ((v636 : Int32).toInt).toNat from (by
                              have z9_72 := congrArg Int32.toInt (show v616 = fa 12 72 ((x613_5 : Int32).toInt).toNat from ev616)
                              have z9_73 := congrArg Int32.toInt (show v621 = fa 12 73 ((x613_5 : Int32).toInt).toNat from ev621)
                              have hs9 : ((v636 : Int32).toInt).toNat = ((x613_5 : Int32).toInt).toNat + 1 := by omega
                              rw [smW_n hs9 (show ¬ (((fa 12 72) ((x613_5 : Int32).toInt).toNat).toInt ≤ a.toInt ∧ (((fa 12 73) ((x613_5 : Int32).toInt).toNat).toInt < 0 ∨ a.toInt < ((fa 12 73) ((x613_5 : Int32).toInt).toNat).toInt) ∧ ((fa 12 68) ((x613_5 : Int32).toInt).toNat).toInt = 1 - b.toInt) from by omega), ← hq614_0, ew635]; exact Int64.add_zero _)) (show (v636 : Int32).toInt ≤ ((iv 12 67) : Int32).toInt from by omega) (by omega) ls (lv_sub hl [0, 1, 3, 4, 5] rfl)
                      · exact absurd rfl c634
                    · have fc633 := z_nle (rfl : (v621).toInt = _) (rfl : (a).toInt = _) c633
                      refine lv_iconst (v := 1) hx hb dX12_stood_68 (by decide) ?_
                      refine lv_goto (tgt := 73) hx hb dX12_stood_69 (by decide) ?_
                      refine lv_istore (lv' := [(6, .int 1), (5, .int x613_5), (3, .long x613_3), (0, .ref h), (1, .int a), (2, .int b)]) hx hb dX12_stood_73 hl (by decide) rfl (fun ls hl => ?_)
                      refine lv_lload_n hx hb dX12_stood_75 rfl (lv_at hl 2 rfl) ?_
                      refine lv_iload hx hb dX12_stood_76 (lv_at hl 0 rfl) ?_
                      refine lv_if_eq (tgt := 104) hx hb dX12_stood_78 (by decide) (fun c637 => ?_) (fun c637 => ?_)
                      · exact absurd c637 (by decide)
                      · skip
                        refine lv_aload_n hx hb dX12_stood_81 rfl (lv_at hl 3 rfl) ?_
                        refine gM_12_68 hx hb ht hown hK hP m_1207 dX12_stood_82 ?_
                        refine lv_iload hx hb dX12_stood_85 (lv_at hl 1 rfl) ?_
                        refine lM_12_68 hx hb hK hP (f := (fa 12 68)) rfl (vp_in_iff.mpr ⟨by omega, by omega⟩) dX12_stood_87 ?_
                        refine lv_topi (fun v638 ev638 => ?_)
                        refine lv_iconst (v := 1) hx hb dX12_stood_88 (by decide) ?_
                        refine lv_iload_n hx hb dX12_stood_89 rfl (lv_at hl 5 rfl) ?_
                        refine lv_isub hx hb dX12_stood_90 ?_
                        refine lv_topi (fun v639 ev639 => ?_)
                        have tv639 := z_sub ev639 (by decide : (1 : Int32).toInt = 1) (rfl : (b).toInt = _) (by omega) (by omega)
                        refine lv_icmp_ne (tgt := 104) hx hb dX12_stood_91 (by decide) (fun c640 => ?_) (fun c640 => ?_)
                        · have fc640 := z_ne (rfl : (v638).toInt = _) (rfl : (v639).toInt = _) c640
                          refine lv_lconst (v := 0) hx hb dX12_stood_104 (by decide) ?_
                          refine lv_ladd hx hb dX12_stood_105 ?_
                          refine lv_topl (fun w641 ew641 => ?_)
                          refine lv_lstore_n (lv' := [(3, .long w641), (6, .int 1), (5, .int x613_5), (0, .ref h), (1, .int a), (2, .int b)]) hx hb dX12_stood_106 rfl hl (by decide) rfl (fun ls hl => ?_)
                          obtain ⟨v642, ev642⟩ : ∃ y : Int32, y = x613_5 + 1 := ⟨_, rfl⟩
                          have tv642 := z_add ev642 rfl (by decide : (1 : Int32).toInt = 1) (by omega) (by omega)
                          refine lv_iinc (v := v642) (lv' := [(5, .int v642), (3, .long w641), (6, .int 1), (0, .ref h), (1, .int a), (2, .int b)]) hx hb dX12_stood_107 hl (k := 2) rfl (by rw [ev642]; rfl) (by decide) rfl (fun ls hl => ?_)
                          refine lv_goto (tgt := 27) hx hb dX12_stood_110 (by decide) ?_
                          exact ih614 v642 w641 ⟨by omega, by omega⟩ (show (w641 : Int64) = smW (fun q : Nat => ((fa 12 72) q).toInt ≤ (a).toInt ∧ (((fa 12 73) q).toInt < 0 ∨ (a).toInt < ((fa 12 73) q).toInt) ∧ ((fa 12 68) q).toInt = 1 - (b).toInt) (la 12 70) ((v642 : Int32).toInt).toNat from (by
                                have z9_72 := congrArg Int32.toInt (show v616 = fa 12 72 ((x613_5 : Int32).toInt).toNat from ev616)
                                have z9_73 := congrArg Int32.toInt (show v621 = fa 12 73 ((x613_5 : Int32).toInt).toNat from ev621)
                                have z9_68 := congrArg Int32.toInt (show v638 = fa 12 68 ((x613_5 : Int32).toInt).toNat from ev638)
                                have hs9 : ((v642 : Int32).toInt).toNat = ((x613_5 : Int32).toInt).toNat + 1 := by omega
                                rw [smW_n hs9 (show ¬ (((fa 12 72) ((x613_5 : Int32).toInt).toNat).toInt ≤ a.toInt ∧ (((fa 12 73) ((x613_5 : Int32).toInt).toNat).toInt < 0 ∨ a.toInt < ((fa 12 73) ((x613_5 : Int32).toInt).toNat).toInt) ∧ ((fa 12 68) ((x613_5 : Int32).toInt).toNat).toInt = 1 - b.toInt) from by omega), ← hq614_0, ew641]; exact Int64.add_zero _)) (show (v642 : Int32).toInt ≤ ((iv 12 67) : Int32).toInt from by omega) (by omega) ls (lv_sub hl [0, 1, 3, 4, 5] rfl)
                        · have fc640 := z_eq (rfl : (v638).toInt = _) (rfl : (v639).toInt = _) c640
                          refine lv_aload_n hx hb dX12_stood_94 rfl (lv_at hl 3 rfl) ?_
                          refine gM_12_70 hx hb ht hown hK hP m_1209 dX12_stood_95 ?_
                          refine lv_iload hx hb dX12_stood_98 (lv_at hl 1 rfl) ?_
                          refine lM_12_70 hx hb hK hP (f := (la 12 70)) rfl (vp_in_iff.mpr ⟨by omega, by omega⟩) dX12_stood_100 ?_
                          refine lv_topl (fun w643 ew643 => ?_)
                          refine lv_goto (tgt := 105) hx hb dX12_stood_101 (by decide) ?_
                          refine lv_ladd hx hb dX12_stood_105 ?_
                          refine lv_topl (fun w644 ew644 => ?_)
                          refine lv_lstore_n (lv' := [(3, .long w644), (6, .int 1), (5, .int x613_5), (0, .ref h), (1, .int a), (2, .int b)]) hx hb dX12_stood_106 rfl hl (by decide) rfl (fun ls hl => ?_)
                          obtain ⟨v645, ev645⟩ : ∃ y : Int32, y = x613_5 + 1 := ⟨_, rfl⟩
                          have tv645 := z_add ev645 rfl (by decide : (1 : Int32).toInt = 1) (by omega) (by omega)
                          refine lv_iinc (v := v645) (lv' := [(5, .int v645), (3, .long w644), (6, .int 1), (0, .ref h), (1, .int a), (2, .int b)]) hx hb dX12_stood_107 hl (k := 2) rfl (by rw [ev645]; rfl) (by decide) rfl (fun ls hl => ?_)
                          refine lv_goto (tgt := 27) hx hb dX12_stood_110 (by decide) ?_
                          exact ih614 v645 w644 ⟨by omega, by omega⟩ (show (w644 : Int64) = smW (fun q : Nat => ((fa 12 72) q).toInt ≤ (a).toInt ∧ (((fa 12 73) q).toInt < 0 ∨ (a).toInt < ((fa 12 73) q).toInt) ∧ ((fa 12 68) q).toInt = 1 - (b).toInt) (la 12 70) ((v645 : Int32).toInt).toNat from (by
                                have z9_72 := congrArg Int32.toInt (show v616 = fa 12 72 ((x613_5 : Int32).toInt).toNat from ev616)
                                have z9_73 := congrArg Int32.toInt (show v621 = fa 12 73 ((x613_5 : Int32).toInt).toNat from ev621)
                                have z9_68 := congrArg Int32.toInt (show v638 = fa 12 68 ((x613_5 : Int32).toInt).toNat from ev638)
                                have hs9 : ((v645 : Int32).toInt).toNat = ((x613_5 : Int32).toInt).toNat + 1 := by omega
                                rw [smW_y hs9 (show ((fa 12 72) ((x613_5 : Int32).toInt).toNat).toInt ≤ a.toInt ∧ (((fa 12 73) ((x613_5 : Int32).toInt).toNat).toInt < 0 ∨ a.toInt < ((fa 12 73) ((x613_5 : Int32).toInt).toNat).toInt) ∧ ((fa 12 68) ((x613_5 : Int32).toInt).toNat).toInt = 1 - b.toInt from by omega), ← hq614_0, ew644, show w643 = la 12 70 ((x613_5 : Int32).toInt).toNat from ew643])) (show (v645 : Int32).toInt ≤ ((iv 12 67) : Int32).toInt from by omega) (by omega) ls (lv_sub hl [0, 1, 3, 4, 5] rfl)
          have : (0 : Int32).toInt = 0 := (by decide)
          have : (0 : Int64).toInt = 0 := (by decide)
          have i_12_67 : 0 ≤ (iv 12 67).toInt ∧ (iv 12 67).toInt ≤ 40 := hI.1 12 67
          exact lp614 41 0 0 ⟨by decide, by decide⟩ (show (0 : Int64) = smW (fun q : Nat => ((fa 12 72) q).toInt ≤ (a).toInt ∧ (((fa 12 73) q).toInt < 0 ∨ (a).toInt < ((fa 12 73) q).toInt) ∧ ((fa 12 68) q).toInt = 1 - (b).toInt) (la 12 70) ((0 : Int32).toInt).toNat from (by have hz : ((0 : Int32).toInt).toNat = 0 := (by decide); rw [hz]; rfl)) (show (0 : Int32).toInt ≤ ((iv 12 67) : Int32).toInt from by omega) (by first | decide | omega) ls (lv_sub hl [0, 1, 2, 3, 4] rfl)
        · exact absurd c4 (by decide)
      · skip
        refine lv_if_ne (tgt := 22) hx hb dX12_stood_15 (by decide) (fun c646 => ?_) (fun c646 => ?_)
        · exact absurd rfl c646
        · skip
          refine lv_ldc2 hx hb hown (ht _ m_1561) dX12_stood_18 ?_
          have : ((-100002) : Int64).toInt = (-100002) := (by decide)
          exact W.lret (v := (-100002)) hx hb hr (fun t ht9 hW => ⟨(-100002), rfl, ⟨trivial, (show ((((-100002) : Int64).toInt = -100002 ∧ ¬ (0 ≤ (a).toInt ∧ (a).toInt ≤ (iv 12 0).toInt ∧ 0 ≤ (b).toInt ∧ (b).toInt ≤ 1)) ∨ ((0 ≤ (a).toInt ∧ (a).toInt ≤ (iv 12 0).toInt ∧ 0 ≤ (b).toInt ∧ (b).toInt ≤ 1) ∧ ((-100002) : Int64).toInt = (smW (fun q : Nat => ((fa 12 72) q).toInt ≤ (a).toInt ∧ (((fa 12 73) q).toInt < 0 ∨ (a).toInt < ((fa 12 73) q).toInt) ∧ ((fa 12 68) q).toInt = 1 - (b).toInt) (la 12 70) ((iv 12 67).toInt).toNat).toInt)) from Or.inl ⟨by omega, by omega⟩)⟩, ht9⟩) (fun q hq => by cases hq) dX12_stood_21
  · skip
    refine lv_if_eq (tgt := 18) hx hb dX12_stood_5 (by decide) (fun c647 => ?_) (fun c647 => ?_)
    · skip
      refine lv_ldc2 hx hb hown (ht _ m_1561) dX12_stood_18 ?_
      have : ((-100002) : Int64).toInt = (-100002) := (by decide)
      exact W.lret (v := (-100002)) hx hb hr (fun t ht9 hW => ⟨(-100002), rfl, ⟨trivial, (show ((((-100002) : Int64).toInt = -100002 ∧ ¬ (0 ≤ (a).toInt ∧ (a).toInt ≤ (iv 12 0).toInt ∧ 0 ≤ (b).toInt ∧ (b).toInt ≤ 1)) ∨ ((0 ≤ (a).toInt ∧ (a).toInt ≤ (iv 12 0).toInt ∧ 0 ≤ (b).toInt ∧ (b).toInt ≤ 1) ∧ ((-100002) : Int64).toInt = (smW (fun q : Nat => ((fa 12 72) q).toInt ≤ (a).toInt ∧ (((fa 12 73) q).toInt < 0 ∨ (a).toInt < ((fa 12 73) q).toInt) ∧ ((fa 12 68) q).toInt = 1 - (b).toInt) (la 12 70) ((iv 12 67).toInt).toNat).toInt)) from Or.inl ⟨by omega, by omega⟩)⟩, ht9⟩) (fun q hq => by cases hq) dX12_stood_21
    · exact absurd rfl c647
