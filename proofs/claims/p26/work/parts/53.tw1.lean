/-! ===== tw1 ===== -/
set_option maxHeartbeats 4000000 in
set_option maxRecDepth 100000 in
/-- X0_untwist -/
theorem c_X0_untwist_w (l : Launch) (dC : Nat → ClassId) (dI : Nat → Nat → Nat) (sz : Nat) (h : Nat) (g : Nat → Nat → Nat) (ca : Nat → Nat → ClassId) (iv : Nat → Nat → Int32) (lv : Nat → Nat → Int64) (fa : Nat → Nat → Nat → Int32) (la : Nat → Nat → Nat → Int64) (hI : IX iv fa) (b : Int32) (a : Int32) (z_0_2 : 0 ≤ (fa 0 2 b.toNatClampNeg).toInt ∧ (fa 0 2 b.toNatClampNeg).toInt ≤ 7) (h_b : 0 ≤ b.toInt ∧ b.toInt ≤ 9) : Met l yX0_untwist (wc yX0_untwist cX0_untwist 5 (some .int)) ({ frames := 0, cells := 0, slots := 0, locals := 0 } : Room) (pW (dC, dI) classes (WX h g ca iv lv fa la) (TX ca) sz [.ref (g 11 2), .int b, .int a]) (va_Qi (fun r (u : SS) => ∃ (na_0_2 : Nat → Int32) (na_0_6 : Nat → Int32), (∀ j, inb (bA 0 2 j) (na_0_2 j)) ∧ (∀ j : Nat, j ≠ b.toNatClampNeg → na_0_2 j = (fa 0 2) j) ∧ (r.toInt = ((fa 0 2) b.toNatClampNeg).toInt + 1) ∧ ((na_0_2 b.toNatClampNeg).toInt = r.toInt) ∧ (Ins (fa 0 6) na_0_6 (8 * (b.toInt).toNat) ((((fa 0 2) (b.toInt).toNat).toInt)).toNat a.toInt) ∧ (0 ≤ r.toInt ∧ r.toInt ≤ 8) ∧ u = (iv, lv, (u2 (u2 fa 0 2 na_0_2) 0 6 na_0_6), la)) (bX (dC, dI) h g ca (va_A (WX h g ca iv lv fa la) sz)) (va_A (WX h g ca iv lv fa la) sz)) 0 0 (va_A (WX h g ca iv lv fa la) sz) := by
  refine Met.ofW (cc := cX0_untwist) (maxL := 5) (ret := (some .int)) (by decide) rfl ?_
  intro p e s m args below meth c s₁ B hml hv
  obtain ⟨rfl, hsz, hP, hK, hD0⟩ := hv
  have hx := B.exec
  have hb := B.bytes
  have hr := B.returns
  have ht := tb_tl (atoms_spec (ws := wc yX0_untwist cX0_untwist 5 (some .int)) B.pre)
  have hown : s.vm.findClass RX0 = some m.cls := findClass_of_methodNamed B.named
  have hlocks := B.notSynchronized
  subst hsz
  have hD := hD0.self (sz := s.heap.size)
  generalize hAe : va_A (WX h g ca iv lv fa la) s.heap.size = A at hD ⊢
  have hA : ∀ q : Nat, s.heap.size ≤ q → A q := fun q h => by rw [← hAe]; exact Or.inr h
  have hS : va_S A s.heap s.heap [] := va_S.rf
  have hl := lv_entry [.ref (g 11 2), .int b, .int a] (n := 5) (Nat.le_of_ble_eq_true rfl)
  rw [lg_entry_eq]
  generalize (lg_sl [.ref (g 11 2), .int b, .int a] ++ List.replicate (5 - (lg_sl [.ref (g 11 2), .int b, .int a]).length) Slot.unset).toArray = ls at hl ⊢
  have hl : lv_has ls 5 [(0, .ref (g 11 2)), (1, .int b), (2, .int a)] := hl
  refine lv_iload_n hx hb dX0_untwist_0 rfl (lv_at hl 1 rfl) ?_
  refine lv_bipush (v := 8) hx hb dX0_untwist_1 (by decide) ?_
  refine lv_imul hx hb dX0_untwist_3 ?_
  refine lv_topi (fun v1 ev1 => ?_)
  have tv1 := z_mul ev1 (rfl : (b).toInt = _) (by decide : (8 : Int32).toInt = 8) (by omega) (by omega)
  refine lv_istore_n (lv' := [(3, .int v1), (0, .ref (g 11 2)), (1, .int b), (2, .int a)]) hx hb dX0_untwist_4 rfl hl (by decide) rfl (fun ls hl => ?_)
  refine lv_iload_n hx hb dX0_untwist_5 rfl (lv_at hl 0 rfl) ?_
  refine lv_aload_n hx hb dX0_untwist_6 rfl (lv_at hl 1 rfl) ?_
  refine va_get (D := (dC, dI)) (ci := 0) (v := .ref (g 0 2)) (fs := fX0 h g iv lv) (C := RX0) (T := TX0) (N := 8) hx hb ht inX0 hown hK hP 3 rfl rfl 2 (by decide) (ht _ m_156) (fun _ h9 => h9) rfl dX0_untwist_7 ?_
  refine lv_iload_n hx hb dX0_untwist_10 rfl (lv_at hl 2 rfl) ?_
  refine va_iald (D := (dC, dI)) hx hb hK hP 19 6 (f := (fa 0 2)) rfl rfl (vp_in_iff.mpr ⟨by omega, by omega⟩) dX0_untwist_11 ?_
  refine lv_topi (fun v2 ev2 => ?_)
  have tv2 : 0 ≤ v2.toInt ∧ v2.toInt ≤ 7 := by rw [ev2]; exact z_0_2
  have hn9 := congrArg Int32.toInt (show v2 = fa 0 2 (b.toInt).toNat from ev2)
  refine lv_iadd hx hb dX0_untwist_12 ?_
  refine lv_topi (fun v3 ev3 => ?_)
  have tv3 := z_add ev3 (rfl : (v1).toInt = _) (rfl : (v2).toInt = _) (by omega) (by omega)
  refine lv_istore (lv' := [(4, .int v3), (3, .int v1), (0, .ref (g 11 2)), (1, .int b), (2, .int a)]) hx hb dX0_untwist_13 hl (by decide) rfl (fun ls hl => ?_)
  have lp43 : ∀ (nn43 : Nat) (x42_4 : Int32) (w42_a_0_6 : Nat → Int32), 0 ≤ x42_4.toInt ∧ x42_4.toInt ≤ 79 → (∀ j, inb (bA 0 6 j) (w42_a_0_6 j)) → (∀ j : Nat, (j : Int) < (x42_4 : Int32).toInt → w42_a_0_6 j = (fa 0 6) j) → (∀ j : Nat, (x42_4 : Int32).toInt ≤ (j : Int) → (j : Int) < (v1 : Int32).toInt + (((fa 0 2) ((b).toInt).toNat).toInt) → w42_a_0_6 (j + 1) = (fa 0 6) j ∧ (a).toInt < ((fa 0 6) j).toInt) → (∀ j : Nat, (v1 : Int32).toInt + (((fa 0 2) ((b).toInt).toNat).toInt) < (j : Int) → w42_a_0_6 j = (fa 0 6) j) → (v1 : Int32).toInt ≤ (x42_4 : Int32).toInt → (x42_4 : Int32).toInt ≤ (v1 : Int32).toInt + (((fa 0 2) ((b).toInt).toNat).toInt) → x42_4.toInt - 0 < (nn43 : Int) → ∀ (H : Heap) (locs : List Loc), ∀ (ls : Array Slot), va_P (dC, dI) classes (WX h g ca iv lv (u2 fa 0 6 w42_a_0_6) la) H → va_D A (WX h g ca iv lv (u2 fa 0 6 w42_a_0_6) la) → va_S A s.heap H locs → lv_has ls 5 [(4, .int x42_4), (3, .int v1), (0, .ref (g 11 2)), (1, .int b), (2, .int a)] → W p l e ({ frames := 0, cells := 0, slots := 0, locals := 0 } : Room) s m ([.ref (g 11 2), .int b, .int a] : List Value).toArray below meth c H locs 0 0 (MQ below (va_Qi (fun r (u : SS) => ∃ (na_0_2 : Nat → Int32) (na_0_6 : Nat → Int32), (∀ j, inb (bA 0 2 j) (na_0_2 j)) ∧ (∀ j : Nat, j ≠ b.toNatClampNeg → na_0_2 j = (fa 0 2) j) ∧ (r.toInt = ((fa 0 2) b.toNatClampNeg).toInt + 1) ∧ ((na_0_2 b.toNatClampNeg).toInt = r.toInt) ∧ (Ins (fa 0 6) na_0_6 (8 * (b.toInt).toNat) ((((fa 0 2) (b.toInt).toNat).toInt)).toNat a.toInt) ∧ (0 ≤ r.toInt ∧ r.toInt ≤ 8) ∧ u = (iv, lv, (u2 (u2 fa 0 2 na_0_2) 0 6 na_0_6), la)) (bX (dC, dI) h g ca A) A) ([.ref (g 11 2), .int b, .int a] : List Value).toArray s 0 0 A) (F0 m 15 ls []) := by
    intro nn43
    induction nn43 with
    | zero => intro x42_4 w42_a_0_6 hx42_4 hw42_a_0_6 hq43_0 hq43_1 hq43_2 hq43_3 hq43_4 hm43; exfalso; omega
    | succ nn43 ih43 =>
      intro x42_4 w42_a_0_6 hx42_4 hw42_a_0_6 hq43_0 hq43_1 hq43_2 hq43_3 hq43_4 hm43 H locs ls hP hD hS hl
      refine lv_iload hx hb dX0_untwist_15 (lv_at hl 0 rfl) ?_
      refine lv_iload_n hx hb dX0_untwist_17 rfl (lv_at hl 1 rfl) ?_
      refine lv_icmp_le (tgt := 56) hx hb dX0_untwist_18 (by decide) (fun c44 => ?_) (fun c44 => ?_)
      · have fc44 := z_le (rfl : (x42_4).toInt = _) (rfl : (v1).toInt = _) c44
        refine lv_aload_n hx hb dX0_untwist_56 rfl (lv_at hl 2 rfl) ?_
        refine va_get (D := (dC, dI)) (ci := 0) (v := .ref (g 0 6)) (fs := fX0 h g iv lv) (C := RX0) (T := TX0) (N := 8) hx hb ht inX0 hown hK hP 3 rfl rfl 6 (by decide) (ht _ m_163) (fun _ h9 => h9) rfl dX0_untwist_57 ?_
        refine lv_iload hx hb dX0_untwist_60 (lv_at hl 0 rfl) ?_
        refine lv_iload_n hx hb dX0_untwist_62 rfl (lv_at hl 4 rfl) ?_
        refine va_iast (D := (dC, dI)) hx hb hK hP hD hS 23 10 (f := w42_a_0_6) rfl rfl (vp_in_iff.mpr ⟨by omega, by omega⟩) dX0_untwist_63 (fun H locs hP hD hS => ?_)
        rw [aX_0_6] at hP hD
        obtain ⟨f45, ef45⟩ : ∃ f : Nat → Int32, f = upd w42_a_0_6 ((x42_4 : Int32).toNatClampNeg) a := ⟨_, rfl⟩
        rw [← ef45] at hP hD
        have hf45 : ∀ j, inb (bA 0 6 j) (f45 j) := fun j => full_i _
        have hP : va_P (dC, dI) classes (WX h g ca iv lv (u2 fa 0 6 f45) la) H := hP
        have hD : va_D A (WX h g ca iv lv (u2 fa 0 6 f45) la) := hD
        refine lv_aload_n hx hb dX0_untwist_64 rfl (lv_at hl 2 rfl) ?_
        refine va_get (D := (dC, dI)) (ci := 0) (v := .ref (g 0 2)) (fs := fX0 h g iv lv) (C := RX0) (T := TX0) (N := 8) hx hb ht inX0 hown hK hP 3 rfl rfl 2 (by decide) (ht _ m_156) (fun _ h9 => h9) rfl dX0_untwist_65 ?_
        refine lv_iload_n hx hb dX0_untwist_68 rfl (lv_at hl 3 rfl) ?_
        refine lv_dup2_11 hx hb dX0_untwist_69 rfl rfl ?_
        refine va_iald (D := (dC, dI)) hx hb hK hP 19 6 (f := (fa 0 2)) rfl rfl (vp_in_iff.mpr ⟨by omega, by omega⟩) dX0_untwist_70 ?_
        refine lv_topi (fun v46 ev46 => ?_)
        obtain rfl : v2 = v46 := ev2.trans ev46.symm
        refine lv_iconst (v := 1) hx hb dX0_untwist_71 (by decide) ?_
        refine lv_iadd hx hb dX0_untwist_72 ?_
        refine lv_topi (fun v47 ev47 => ?_)
        have tv47 := z_add ev47 (rfl : (v2).toInt = _) (by decide : (1 : Int32).toInt = 1) (by omega) (by omega)
        refine va_iast (D := (dC, dI)) hx hb hK hP hD hS 19 6 (f := (fa 0 2)) rfl rfl (vp_in_iff.mpr ⟨by omega, by omega⟩) dX0_untwist_73 (fun H locs hP hD hS => ?_)
        rw [aX_0_2] at hP hD
        obtain ⟨f48, ef48⟩ : ∃ f : Nat → Int32, f = upd (fa 0 2) ((b : Int32).toNatClampNeg) v47 := ⟨_, rfl⟩
        rw [← ef48] at hP hD
        have hf48 : ∀ j, inb (bA 0 2 j) (f48 j) := by rw [ef48]; exact upd_b (b := bA 0 2) (hI.2 0 2) (show inb (0, 8) v47 from ⟨by omega, by omega⟩)
        refine lv_aload_n hx hb dX0_untwist_74 rfl (lv_at hl 2 rfl) ?_
        refine va_get (D := (dC, dI)) (ci := 0) (v := .ref (g 0 2)) (fs := fX0 h g iv lv) (C := RX0) (T := TX0) (N := 8) hx hb ht inX0 hown hK hP 3 rfl rfl 2 (by decide) (ht _ m_156) (fun _ h9 => h9) rfl dX0_untwist_75 ?_
        refine lv_iload_n hx hb dX0_untwist_78 rfl (lv_at hl 3 rfl) ?_
        refine va_iald (D := (dC, dI)) hx hb hK hP 19 6 (f := f48) rfl rfl (vp_in_iff.mpr ⟨by omega, by omega⟩) dX0_untwist_79 ?_
        refine lv_topi (fun v49 ev49 => ?_)
        have tv49 : 0 ≤ v49.toInt ∧ v49.toInt ≤ 8 := by rw [ev49]; exact hf48 _
        have hP9 : va_P (dC, dI) classes (WX h g ca iv lv (u2 (u2 fa 0 2 f48) 0 6 f45) la) H := hP
        have hD9 : va_D A (WX h g ca iv lv (u2 (u2 fa 0 2 f48) 0 6 f45) la) := hD
        exact W.iret (v := v49) hx hb hr (fun t ht9 hW => ⟨⟨v49, (iv, lv, (u2 (u2 fa 0 2 f48) 0 6 f45), la), rfl, ⟨f48, f45, hf48, (show ∀ j : Nat, j ≠ b.toNatClampNeg → f48 j = (fa 0 2) j from fun j hj => by rw [ef48, upd_ne hj]), (show (v49 : Int32).toInt = ((fa 0 2) b.toNatClampNeg).toInt + 1 from (by have h1 := congrArg Int32.toInt ev2; have h2 := congrArg Int32.toInt (ev49.trans (show f48 (b : Int32).toNatClampNeg = v47 from (by rw [ef48]; exact upd_eq))); omega)), (show (f48 b.toNatClampNeg).toInt = (v49 : Int32).toInt from (congrArg Int32.toInt ev49).symm), (show Ins (fa 0 6) f45 (8 * ((b).toInt).toNat) ((((fa 0 2) ((b).toInt).toNat).toInt)).toNat (a).toInt from (by
              refine ⟨((x42_4 : Int32).toInt - 8 * b.toInt).toNat, by omega, fun j hj => ?_, ?_, fun j h1 h2 => ⟨?_, ?_⟩, ?_, fun j hj => ?_⟩
              · rw [ef45, upd_ne (by show _ ≠ (x42_4 : Int32).toInt.toNat; omega)]; exact hq43_0 _ (by omega)
              · rw [show 8 * (b.toInt).toNat + ((x42_4 : Int32).toInt - 8 * b.toInt).toNat = (x42_4 : Int32).toNatClampNeg from (by show _ = (x42_4 : Int32).toInt.toNat; omega), ef45, upd_eq]
              · rw [ef45, upd_ne (by show _ ≠ (x42_4 : Int32).toInt.toNat; omega)]; exact (hq43_1 _ (by omega) (by omega)).1
              · exact (hq43_1 _ (by omega) (by omega)).2
              · exact Or.inl (by omega)
              · rw [ef45, upd_ne (by show _ ≠ (x42_4 : Int32).toInt.toNat; omega)]
                by_cases hz : (j : Int) < 8 * b.toInt
                · exact hq43_0 j (by omega)
                · exact hq43_2 j (by omega))), ⟨by omega, by omega⟩, rfl⟩, by rw [ht9]; exact hP9, hD9⟩, hS.F ht9⟩) hS.2.2 dX0_untwist_80
      · have fc44 := z_nle (rfl : (x42_4).toInt = _) (rfl : (v1).toInt = _) c44
        refine lv_aload_n hx hb dX0_untwist_21 rfl (lv_at hl 2 rfl) ?_
        refine va_get (D := (dC, dI)) (ci := 0) (v := .ref (g 0 6)) (fs := fX0 h g iv lv) (C := RX0) (T := TX0) (N := 8) hx hb ht inX0 hown hK hP 3 rfl rfl 6 (by decide) (ht _ m_163) (fun _ h9 => h9) rfl dX0_untwist_22 ?_
        refine lv_iload hx hb dX0_untwist_25 (lv_at hl 0 rfl) ?_
        refine lv_iconst (v := 1) hx hb dX0_untwist_27 (by decide) ?_
        refine lv_isub hx hb dX0_untwist_28 ?_
        refine lv_topi (fun v50 ev50 => ?_)
        have tv50 := z_sub ev50 (rfl : (x42_4).toInt = _) (by decide : (1 : Int32).toInt = 1) (by omega) (by omega)
        refine va_iald (D := (dC, dI)) hx hb hK hP 23 10 (f := w42_a_0_6) rfl rfl (vp_in_iff.mpr ⟨by omega, by omega⟩) dX0_untwist_29 ?_
        refine lv_topi (fun v51 ev51 => ?_)
        refine lv_iload_n hx hb dX0_untwist_30 rfl (lv_at hl 4 rfl) ?_
        refine lv_icmp_le (tgt := 56) hx hb dX0_untwist_31 (by decide) (fun c52 => ?_) (fun c52 => ?_)
        · have fc52 := z_le (rfl : (v51).toInt = _) (rfl : (a).toInt = _) c52
          refine lv_aload_n hx hb dX0_untwist_56 rfl (lv_at hl 2 rfl) ?_
          refine va_get (D := (dC, dI)) (ci := 0) (v := .ref (g 0 6)) (fs := fX0 h g iv lv) (C := RX0) (T := TX0) (N := 8) hx hb ht inX0 hown hK hP 3 rfl rfl 6 (by decide) (ht _ m_163) (fun _ h9 => h9) rfl dX0_untwist_57 ?_
          refine lv_iload hx hb dX0_untwist_60 (lv_at hl 0 rfl) ?_
          refine lv_iload_n hx hb dX0_untwist_62 rfl (lv_at hl 4 rfl) ?_
          refine va_iast (D := (dC, dI)) hx hb hK hP hD hS 23 10 (f := w42_a_0_6) rfl rfl (vp_in_iff.mpr ⟨by omega, by omega⟩) dX0_untwist_63 (fun H locs hP hD hS => ?_)
          rw [aX_0_6] at hP hD
          obtain ⟨f53, ef53⟩ : ∃ f : Nat → Int32, f = upd w42_a_0_6 ((x42_4 : Int32).toNatClampNeg) a := ⟨_, rfl⟩
          rw [← ef53] at hP hD
          have hf53 : ∀ j, inb (bA 0 6 j) (f53 j) := fun j => full_i _
          have hP : va_P (dC, dI) classes (WX h g ca iv lv (u2 fa 0 6 f53) la) H := hP
          have hD : va_D A (WX h g ca iv lv (u2 fa 0 6 f53) la) := hD
          refine lv_aload_n hx hb dX0_untwist_64 rfl (lv_at hl 2 rfl) ?_
          refine va_get (D := (dC, dI)) (ci := 0) (v := .ref (g 0 2)) (fs := fX0 h g iv lv) (C := RX0) (T := TX0) (N := 8) hx hb ht inX0 hown hK hP 3 rfl rfl 2 (by decide) (ht _ m_156) (fun _ h9 => h9) rfl dX0_untwist_65 ?_
          refine lv_iload_n hx hb dX0_untwist_68 rfl (lv_at hl 3 rfl) ?_
          refine lv_dup2_11 hx hb dX0_untwist_69 rfl rfl ?_
          refine va_iald (D := (dC, dI)) hx hb hK hP 19 6 (f := (fa 0 2)) rfl rfl (vp_in_iff.mpr ⟨by omega, by omega⟩) dX0_untwist_70 ?_
          refine lv_topi (fun v54 ev54 => ?_)
          obtain rfl : v2 = v54 := ev2.trans ev54.symm
          refine lv_iconst (v := 1) hx hb dX0_untwist_71 (by decide) ?_
          refine lv_iadd hx hb dX0_untwist_72 ?_
          refine lv_topi (fun v55 ev55 => ?_)
          have tv55 := z_add ev55 (rfl : (v2).toInt = _) (by decide : (1 : Int32).toInt = 1) (by omega) (by omega)
          refine va_iast (D := (dC, dI)) hx hb hK hP hD hS 19 6 (f := (fa 0 2)) rfl rfl (vp_in_iff.mpr ⟨by omega, by omega⟩) dX0_untwist_73 (fun H locs hP hD hS => ?_)
          rw [aX_0_2] at hP hD
          obtain ⟨f56, ef56⟩ : ∃ f : Nat → Int32, f = upd (fa 0 2) ((b : Int32).toNatClampNeg) v55 := ⟨_, rfl⟩
          rw [← ef56] at hP hD
          have hf56 : ∀ j, inb (bA 0 2 j) (f56 j) := by rw [ef56]; exact upd_b (b := bA 0 2) (hI.2 0 2) (show inb (0, 8) v55 from ⟨by omega, by omega⟩)
          refine lv_aload_n hx hb dX0_untwist_74 rfl (lv_at hl 2 rfl) ?_
          refine va_get (D := (dC, dI)) (ci := 0) (v := .ref (g 0 2)) (fs := fX0 h g iv lv) (C := RX0) (T := TX0) (N := 8) hx hb ht inX0 hown hK hP 3 rfl rfl 2 (by decide) (ht _ m_156) (fun _ h9 => h9) rfl dX0_untwist_75 ?_
          refine lv_iload_n hx hb dX0_untwist_78 rfl (lv_at hl 3 rfl) ?_
          refine va_iald (D := (dC, dI)) hx hb hK hP 19 6 (f := f56) rfl rfl (vp_in_iff.mpr ⟨by omega, by omega⟩) dX0_untwist_79 ?_
          refine lv_topi (fun v57 ev57 => ?_)
          have tv57 : 0 ≤ v57.toInt ∧ v57.toInt ≤ 8 := by rw [ev57]; exact hf56 _
          have hP9 : va_P (dC, dI) classes (WX h g ca iv lv (u2 (u2 fa 0 2 f56) 0 6 f53) la) H := hP
          have hD9 : va_D A (WX h g ca iv lv (u2 (u2 fa 0 2 f56) 0 6 f53) la) := hD
          exact W.iret (v := v57) hx hb hr (fun t ht9 hW => ⟨⟨v57, (iv, lv, (u2 (u2 fa 0 2 f56) 0 6 f53), la), rfl, ⟨f56, f53, hf56, (show ∀ j : Nat, j ≠ b.toNatClampNeg → f56 j = (fa 0 2) j from fun j hj => by rw [ef56, upd_ne hj]), (show (v57 : Int32).toInt = ((fa 0 2) b.toNatClampNeg).toInt + 1 from (by have h1 := congrArg Int32.toInt ev2; have h2 := congrArg Int32.toInt (ev57.trans (show f56 (b : Int32).toNatClampNeg = v55 from (by rw [ef56]; exact upd_eq))); omega)), (show (f56 b.toNatClampNeg).toInt = (v57 : Int32).toInt from (congrArg Int32.toInt ev57).symm), (show Ins (fa 0 6) f53 (8 * ((b).toInt).toNat) ((((fa 0 2) ((b).toInt).toNat).toInt)).toNat (a).toInt from (by
                refine ⟨((x42_4 : Int32).toInt - 8 * b.toInt).toNat, by omega, fun j hj => ?_, ?_, fun j h1 h2 => ⟨?_, ?_⟩, ?_, fun j hj => ?_⟩
                · rw [ef53, upd_ne (by show _ ≠ (x42_4 : Int32).toInt.toNat; omega)]; exact hq43_0 _ (by omega)
                · rw [show 8 * (b.toInt).toNat + ((x42_4 : Int32).toInt - 8 * b.toInt).toNat = (x42_4 : Int32).toNatClampNeg from (by show _ = (x42_4 : Int32).toInt.toNat; omega), ef53, upd_eq]
                · rw [ef53, upd_ne (by show _ ≠ (x42_4 : Int32).toInt.toNat; omega)]; exact (hq43_1 _ (by omega) (by omega)).1
                · exact (hq43_1 _ (by omega) (by omega)).2
                · exact Or.inr (by have g1 := hq43_0 (8 * (b.toInt).toNat + ((x42_4 : Int32).toInt - 8 * b.toInt).toNat - 1) (by omega); have g2 : (v50 : Int32).toNatClampNeg = 8 * (b.toInt).toNat + ((x42_4 : Int32).toInt - 8 * b.toInt).toNat - 1 := (by show (v50 : Int32).toInt.toNat = _; omega); have g3 := congrArg Int32.toInt ev51; rw [g2, g1] at g3; omega)
                · rw [ef53, upd_ne (by show _ ≠ (x42_4 : Int32).toInt.toNat; omega)]
                  by_cases hz : (j : Int) < 8 * b.toInt
                  · exact hq43_0 j (by omega)
                  · exact hq43_2 j (by omega))), ⟨by omega, by omega⟩, rfl⟩, by rw [ht9]; exact hP9, hD9⟩, hS.F ht9⟩) hS.2.2 dX0_untwist_80
        · have fc52 := z_nle (rfl : (v51).toInt = _) (rfl : (a).toInt = _) c52
          refine lv_aload_n hx hb dX0_untwist_34 rfl (lv_at hl 2 rfl) ?_
          refine va_get (D := (dC, dI)) (ci := 0) (v := .ref (g 0 6)) (fs := fX0 h g iv lv) (C := RX0) (T := TX0) (N := 8) hx hb ht inX0 hown hK hP 3 rfl rfl 6 (by decide) (ht _ m_163) (fun _ h9 => h9) rfl dX0_untwist_35 ?_
          refine lv_iload hx hb dX0_untwist_38 (lv_at hl 0 rfl) ?_
          refine lv_aload_n hx hb dX0_untwist_40 rfl (lv_at hl 2 rfl) ?_
          refine va_get (D := (dC, dI)) (ci := 0) (v := .ref (g 0 6)) (fs := fX0 h g iv lv) (C := RX0) (T := TX0) (N := 8) hx hb ht inX0 hown hK hP 3 rfl rfl 6 (by decide) (ht _ m_163) (fun _ h9 => h9) rfl dX0_untwist_41 ?_
          refine lv_iload hx hb dX0_untwist_44 (lv_at hl 0 rfl) ?_
          refine lv_iconst (v := 1) hx hb dX0_untwist_46 (by decide) ?_
          refine lv_isub hx hb dX0_untwist_47 ?_
          refine lv_topi (fun v58 ev58 => ?_)
          obtain rfl : v50 = v58 := ev50.trans ev58.symm
          refine va_iald (D := (dC, dI)) hx hb hK hP 23 10 (f := w42_a_0_6) rfl rfl (vp_in_iff.mpr ⟨by omega, by omega⟩) dX0_untwist_48 ?_
          refine lv_topi (fun v59 ev59 => ?_)
          obtain rfl : v51 = v59 := ev51.trans ev59.symm
          refine va_iast (D := (dC, dI)) hx hb hK hP hD hS 23 10 (f := w42_a_0_6) rfl rfl (vp_in_iff.mpr ⟨by omega, by omega⟩) dX0_untwist_49 (fun H locs hP hD hS => ?_)
          rw [aX_0_6] at hP hD
          obtain ⟨f60, ef60⟩ : ∃ f : Nat → Int32, f = upd w42_a_0_6 ((x42_4 : Int32).toNatClampNeg) v51 := ⟨_, rfl⟩
          rw [← ef60] at hP hD
          have hf60 : ∀ j, inb (bA 0 6 j) (f60 j) := fun j => full_i _
          have hP : va_P (dC, dI) classes (WX h g ca iv lv (u2 fa 0 6 f60) la) H := hP
          have hD : va_D A (WX h g ca iv lv (u2 fa 0 6 f60) la) := hD
          obtain ⟨v61, ev61⟩ : ∃ y : Int32, y = x42_4 + (-1) := ⟨_, rfl⟩
          have tv61 := z_add ev61 rfl (by decide : ((-1) : Int32).toInt = (-1)) (by omega) (by omega)
          refine lv_iinc (v := v61) (lv' := [(4, .int v61), (3, .int v1), (0, .ref (g 11 2)), (1, .int b), (2, .int a)]) hx hb dX0_untwist_50 hl (k := 0) rfl (by rw [ev61]; rfl) (by decide) rfl (fun ls hl => ?_)
          refine lv_goto (tgt := 15) hx hb dX0_untwist_53 (by decide) ?_
          exact ih43 v61 f60 ⟨by omega, by omega⟩ hf60 (show ∀ j : Nat, (j : Int) < (v61 : Int32).toInt → f60 j = (fa 0 6) j from fun j hj => by rw [ef60, upd_ne (by show j ≠ (x42_4 : Int32).toInt.toNat; omega)]; exact hq43_0 j (by omega)) (show ∀ j : Nat, (v61 : Int32).toInt ≤ (j : Int) → (j : Int) < (v1 : Int32).toInt + (((fa 0 2) ((b).toInt).toNat).toInt) → f60 (j + 1) = (fa 0 6) j ∧ (a).toInt < ((fa 0 6) j).toInt from (fun j h1 h2 => by
                by_cases hj : (j : Int) = (v61 : Int32).toInt
                · have hj2 : j + 1 = (x42_4 : Int32).toNatClampNeg := by show _ = (x42_4 : Int32).toInt.toNat; omega
                  have hj3 : (v50 : Int32).toNatClampNeg = j := by show (v50 : Int32).toInt.toNat = _; omega
                  have hv : (v51 : Int32) = fa 0 6 j := by rw [ev51, hj3]; exact hq43_0 j (by omega)
                  have hv2 := congrArg Int32.toInt hv
                  refine ⟨?_, by omega⟩
                  rw [hj2, ef60, upd_eq]; exact hv
                · have hz := hq43_1 j (by omega) h2
                  refine ⟨?_, hz.2⟩
                  rw [ef60, upd_ne (by show j + 1 ≠ (x42_4 : Int32).toInt.toNat; omega)]; exact hz.1)) (show ∀ j : Nat, (v1 : Int32).toInt + (((fa 0 2) ((b).toInt).toNat).toInt) < (j : Int) → f60 j = (fa 0 6) j from fun j hj => by rw [ef60, upd_ne (by show j ≠ (x42_4 : Int32).toInt.toNat; omega)]; exact hq43_2 j hj) (show (v1 : Int32).toInt ≤ (v61 : Int32).toInt from by omega) (show (v61 : Int32).toInt ≤ (v1 : Int32).toInt + (((fa 0 2) ((b).toInt).toNat).toInt) from by omega) (by omega) _ _ ls hP hD hS (lv_sub hl [0, 1, 2, 3, 4] rfl)
  exact lp43 80 v3 (fa 0 6) ⟨by omega, by omega⟩ (hI.2 0 6) (show ∀ j : Nat, (j : Int) < (v3 : Int32).toInt → (fa 0 6) j = (fa 0 6) j from fun j hj => rfl) (show ∀ j : Nat, (v3 : Int32).toInt ≤ (j : Int) → (j : Int) < (v1 : Int32).toInt + (((fa 0 2) ((b).toInt).toNat).toInt) → (fa 0 6) (j + 1) = (fa 0 6) j ∧ (a).toInt < ((fa 0 6) j).toInt from fun j h1 h2 => absurd h2 (by omega)) (show ∀ j : Nat, (v1 : Int32).toInt + (((fa 0 2) ((b).toInt).toNat).toInt) < (j : Int) → (fa 0 6) j = (fa 0 6) j from fun j hj => rfl) (show (v1 : Int32).toInt ≤ (v3 : Int32).toInt from by omega) (show (v3 : Int32).toInt ≤ (v1 : Int32).toInt + (((fa 0 2) ((b).toInt).toNat).toInt) from by omega) (by first | decide | omega) _ _ ls hP hD hS (lv_sub hl [0, 1, 2, 3, 4] rfl)
set_option maxHeartbeats 4000000 in
set_option maxRecDepth 100000 in
/-- X11_turns -/
theorem c_X11_turns_w (l : Launch) (dC : Nat → ClassId) (dI : Nat → Nat → Nat) (sz : Nat) (h : Nat) (g : Nat → Nat → Nat) (ca : Nat → Nat → ClassId) (iv : Nat → Nat → Int32) (lv : Nat → Nat → Int64) (fa : Nat → Nat → Nat → Int32) (la : Nat → Nat → Nat → Int64) (hI : IX iv fa) (a : Int32) (b : Int32) : Met l yX11_turns (wc yX11_turns cX11_turns 3 (some .int)) ({ frames := 1, cells := 0, slots := 0, locals := 24 } : Room) (pW (dC, dI) classes (WX h g ca iv lv fa la) (TX ca) sz [.ref h, .int a, .int b]) (va_Qi (fun r (u : SS) => ∃ (na_0_2 : Nat → Int32) (na_0_6 : Nat → Int32), (∀ j, inb (bA 0 2 j) (na_0_2 j)) ∧ (((r.toInt = -100001 ∧ ¬ (0 ≤ a.toInt ∧ a.toInt < (iv 0 7).toInt)) ∨ (r.toInt = -100002 ∧ 0 ≤ a.toInt ∧ a.toInt < (iv 0 7).toInt ∧ ¬ (0 ≤ b.toInt ∧ b.toInt ≤ 999)) ∨ (r.toInt = -100004 ∧ 0 ≤ a.toInt ∧ a.toInt < (iv 0 7).toInt ∧ 0 ≤ b.toInt ∧ b.toInt ≤ 999 ∧ 8 ≤ ((fa 0 2) a.toNatClampNeg).toInt) ∨ (0 ≤ a.toInt ∧ a.toInt < (iv 0 7).toInt ∧ 0 ≤ b.toInt ∧ b.toInt ≤ 999 ∧ ((fa 0 2) a.toNatClampNeg).toInt < 8 ∧ r.toInt = ((fa 0 2) a.toNatClampNeg).toInt + 1))) ∧ (∀ j : Nat, j ≠ a.toNatClampNeg → na_0_2 j = (fa 0 2) j) ∧ (((r.toInt < 0 ∧ (na_0_2 a.toNatClampNeg) = ((fa 0 2) a.toNatClampNeg)) ∨ (0 ≤ r.toInt ∧ (na_0_2 a.toNatClampNeg).toInt = r.toInt))) ∧ (((r.toInt < 0 ∧ ∀ j : Nat, na_0_6 j = (fa 0 6) j) ∨ (0 ≤ r.toInt ∧ Ins (fa 0 6) na_0_6 (8 * (a.toInt).toNat) ((((fa 0 2) (a.toInt).toNat).toInt)).toNat b.toInt))) ∧ ((-100004) ≤ r.toInt ∧ r.toInt ≤ 8) ∧ u = (iv, lv, (u2 (u2 fa 0 2 na_0_2) 0 6 na_0_6), la)) (bX (dC, dI) h g ca (va_A (WX h g ca iv lv fa la) sz)) (va_A (WX h g ca iv lv fa la) sz)) 0 0 (va_A (WX h g ca iv lv fa la) sz) := by
  refine Met.ofW (cc := cX11_turns) (maxL := 3) (ret := (some .int)) (by decide) rfl ?_
  intro p e s m args below meth c s₁ B hml hv
  obtain ⟨rfl, hsz, hP, hK, hD0⟩ := hv
  have hx := B.exec
  have hb := B.bytes
  have hr := B.returns
  have ht := tb_tl (atoms_spec (ws := wc yX11_turns cX11_turns 3 (some .int)) B.pre)
  have hown : s.vm.findClass RX11 = some m.cls := findClass_of_methodNamed B.named
  have hlocks := B.notSynchronized
  subst hsz
  have hD := hD0.self (sz := s.heap.size)
  generalize hAe : va_A (WX h g ca iv lv fa la) s.heap.size = A at hD ⊢
  have hA : ∀ q : Nat, s.heap.size ≤ q → A q := fun q h => by rw [← hAe]; exact Or.inr h
  have hS : va_S A s.heap s.heap [] := va_S.rf
  have hl := lv_entry [.ref h, .int a, .int b] (n := 3) (Nat.le_of_ble_eq_true rfl)
  rw [lg_entry_eq]
  generalize (lg_sl [.ref h, .int a, .int b] ++ List.replicate (3 - (lg_sl [.ref h, .int a, .int b]).length) Slot.unset).toArray = ls at hl ⊢
  have hl : lv_has ls 3 [(0, .ref h), (1, .int a), (2, .int b)] := hl
  refine lv_aload_n hx hb dX11_turns_0 rfl (lv_at hl 0 rfl) ?_
  refine va_get (D := (dC, dI)) (ci := 11) (v := .ref (g 11 2)) (fs := fX11 h g iv lv) (C := RX11) (T := TX11) (N := 11) hx hb ht inX11 hown hK hP 0 rfl rfl 2 (by decide) (ht _ m_417) (fun _ h9 => h9) rfl dX11_turns_1 ?_
  refine lv_iload_n hx hb dX11_turns_4 rfl (lv_at hl 1 rfl) ?_
  refine vp_callSi (W.runV (As := [.int a]) (rest := []) ⟨hx, hb, hml, hown, ht⟩ (c_X0_has l dC dI h g ca iv lv fa la hI a) (kV 1 ht m_472 m_473 m_474 m_80 m_475 rfl rfl hd_X0_has_v ⟨Nat.le_of_ble_eq_true rfl, Nat.le_of_ble_eq_true rfl⟩) (vR hP hK (va_recv hK hP (ci := 0) (q0 := 3) rfl rfl)) rfl rfl hl.1 rfl (lv_room (Nat.le_of_ble_eq_true rfl)) dX11_turns_5 ⟨Nat.le_of_ble_eq_true rfl, Nat.le_of_ble_eq_true rfl⟩) (fun r1 hr1 => ?_)
  rcases hr1 with ⟨rfl, fr1⟩ | ⟨rfl, fr1⟩
  · skip
    have i_0_7 : 0 ≤ (iv 0 7).toInt ∧ (iv 0 7).toInt ≤ 10 := hI.1 0 7
    have fr1 : (0 ≤ (a : Int32).toInt ∧ (a : Int32).toInt < ((iv 0 7) : Int32).toInt) := fr1
    refine lv_if_ne (tgt := 14) hx hb dX11_turns_8 (by decide) (fun c2 => ?_) (fun c2 => ?_)
    · skip
      refine lv_iload_n hx hb dX11_turns_14 rfl (lv_at hl 2 rfl) ?_
      refine lv_iconst (v := 0) hx hb dX11_turns_15 (by decide) ?_
      refine lv_sipush (v := 999) hx hb dX11_turns_16 (by decide) ?_
      refine vp_callSi (W.runS (As := [.int b, .int 0, .int 999]) (rest := []) ⟨hx, hb, hml, hown, ht⟩ (c_X11_within l dC dI b 0 999 (b.toInt) (0) (999) (rfl : (b).toInt = _) (by decide : (0 : Int32).toInt = 0) (by decide : (999 : Int32).toInt = 999)) (kS 3 ht m_453 m_454 m_77 m_455 rfl rfl hd_X11_within_v ⟨Nat.le_of_ble_eq_true rfl, Nat.le_of_ble_eq_true rfl⟩) (sR noP (hK.sub (tys' := []) [] rfl)) rfl rfl hl.1 rfl (lv_room (Nat.le_of_ble_eq_true rfl)) dX11_turns_19 ⟨Nat.le_of_ble_eq_true rfl, Nat.le_of_ble_eq_true rfl⟩) (fun r3 hr3 => ?_)
      rcases hr3 with ⟨rfl, fr3⟩ | ⟨rfl, fr3⟩
      · skip
        refine lv_if_ne (tgt := 28) hx hb dX11_turns_22 (by decide) (fun c4 => ?_) (fun c4 => ?_)
        · skip
          refine lv_aload_n hx hb dX11_turns_28 rfl (lv_at hl 0 rfl) ?_
          refine va_get (D := (dC, dI)) (ci := 11) (v := .ref (g 11 2)) (fs := fX11 h g iv lv) (C := RX11) (T := TX11) (N := 11) hx hb ht inX11 hown hK hP 0 rfl rfl 2 (by decide) (ht _ m_417) (fun _ h9 => h9) rfl dX11_turns_29 ?_
          refine va_get (D := (dC, dI)) (ci := 0) (v := .ref (g 0 2)) (fs := fX0 h g iv lv) (C := RX0) (T := TX0) (N := 8) hx hb ht inX0 hown hK hP 3 rfl rfl 2 (by decide) (ht _ m_157) (fun _ h9 => h9) rfl dX11_turns_32 ?_
          refine lv_iload_n hx hb dX11_turns_35 rfl (lv_at hl 1 rfl) ?_
          refine va_iald (D := (dC, dI)) hx hb hK hP 19 6 (f := (fa 0 2)) rfl rfl (vp_in_iff.mpr ⟨by omega, by omega⟩) dX11_turns_36 ?_
          refine lv_topi (fun v5 ev5 => ?_)
          have tv5 : 0 ≤ v5.toInt ∧ v5.toInt ≤ 8 := by rw [ev5]; exact hI.2 0 2 _
          refine lv_bipush (v := 8) hx hb dX11_turns_37 (by decide) ?_
          refine lv_icmp_lt (tgt := 47) hx hb dX11_turns_39 (by decide) (fun c6 => ?_) (fun c6 => ?_)
          · have fc6 := z_lt (rfl : (v5).toInt = _) (by decide : (8 : Int32).toInt = 8) c6
            refine lv_aload_n hx hb dX11_turns_47 rfl (lv_at hl 0 rfl) ?_
            refine va_get (D := (dC, dI)) (ci := 11) (v := .ref (g 11 2)) (fs := fX11 h g iv lv) (C := RX11) (T := TX11) (N := 11) hx hb ht inX11 hown hK hP 0 rfl rfl 2 (by decide) (ht _ m_417) (fun _ h9 => h9) rfl dX11_turns_48 ?_
            refine lv_iload_n hx hb dX11_turns_51 rfl (lv_at hl 1 rfl) ?_
            refine lv_iload_n hx hb dX11_turns_52 rfl (lv_at hl 2 rfl) ?_
            have hFc := free_all hD hS hA
            refine va_calli (va_runV (As := [.int a, .int b]) (rest := []) ⟨hx, hb, hml, hown, ht⟩ (c_X0_untwist_w l dC dI s.heap.size h g ca iv lv fa la hI a b (show 0 ≤ ((fa 0 2) (a : Int32).toNatClampNeg).toInt ∧ ((fa 0 2) (a : Int32).toNatClampNeg).toInt ≤ 7 from by rw [← ev5]; exact ⟨by omega, by omega⟩) ⟨by omega, by omega⟩) (kV 2 ht m_977 m_978 m_979 m_80 m_980 rfl rfl hd_X0_untwist_v ⟨Nat.le_of_ble_eq_true rfl, Nat.le_of_ble_eq_true rfl⟩) (vW hP hK hD (va_recv hK hP (ci := 0) (q0 := 3) rfl rfl)) rfl rfl hl.1 rfl (lv_room (Nat.le_of_ble_eq_true rfl)) dX11_turns_53 ⟨Nat.le_of_ble_eq_true rfl, Nat.le_of_ble_eq_true rfl⟩) hS (fun q _ h => hFc q h) hFc (fun r7 u t H1 locs ht9 hvm hr7 hB hz1 hk1 hS => ?_)
            obtain ⟨n8, n9, hn8, xr7_0, xr7_1, xr7_2, xr7_3, hr7, rfl⟩ := hr7
            have hn9 : ∀ j, inb (bA 0 6 j) (n9 j) := fun j => full_i _
            obtain ⟨hP, hD⟩ := hB
            rw [ht9] at hP
            generalize H1 = H at hP hS ⊢
            have hP : va_P (dC, dI) classes (WX h g ca iv lv (u2 (u2 fa 0 2 n8) 0 6 n9) la) H := hP
            have hD : va_D A (WX h g ca iv lv (u2 (u2 fa 0 2 n8) 0 6 n9) la) := (show va_D _ (WX h g ca iv lv (u2 (u2 fa 0 2 n8) 0 6 n9) la) from hD).weaken (fun _ _ _ h => hFc _ h)
            have xr7_0 : ∀ j : Nat, j ≠ (a : Int32).toNatClampNeg → n8 j = (fa 0 2) j := xr7_0
            have xr7_1 : (r7 : Int32).toInt = ((fa 0 2) (a : Int32).toNatClampNeg).toInt + 1 := xr7_1
            have xr7_2 : (n8 (a : Int32).toNatClampNeg).toInt = (r7 : Int32).toInt := xr7_2
            have xr7_3 : Ins (fa 0 6) n9 (8 * ((a : Int32).toInt).toNat) ((((fa 0 2) ((a : Int32).toInt).toNat).toInt)).toNat (b : Int32).toInt := xr7_3
            have hP9 : va_P (dC, dI) classes (WX h g ca iv lv (u2 (u2 fa 0 2 n8) 0 6 n9) la) H := hP
            have hD9 : va_D A (WX h g ca iv lv (u2 (u2 fa 0 2 n8) 0 6 n9) la) := hD
            exact W.iret (v := r7) hx hb hr (fun t ht9 hW => ⟨⟨r7, (iv, lv, (u2 (u2 fa 0 2 n8) 0 6 n9), la), rfl, ⟨n8, n9, hn8, (show (((r7 : Int32).toInt = -100001 ∧ ¬ (0 ≤ (a).toInt ∧ (a).toInt < (iv 0 7).toInt)) ∨ ((r7 : Int32).toInt = -100002 ∧ 0 ≤ (a).toInt ∧ (a).toInt < (iv 0 7).toInt ∧ ¬ (0 ≤ (b).toInt ∧ (b).toInt ≤ 999)) ∨ ((r7 : Int32).toInt = -100004 ∧ 0 ≤ (a).toInt ∧ (a).toInt < (iv 0 7).toInt ∧ 0 ≤ (b).toInt ∧ (b).toInt ≤ 999 ∧ 8 ≤ ((fa 0 2) a.toNatClampNeg).toInt) ∨ (0 ≤ (a).toInt ∧ (a).toInt < (iv 0 7).toInt ∧ 0 ≤ (b).toInt ∧ (b).toInt ≤ 999 ∧ ((fa 0 2) a.toNatClampNeg).toInt < 8 ∧ (r7 : Int32).toInt = ((fa 0 2) a.toNatClampNeg).toInt + 1)) from (by have := congrArg Int32.toInt ev5; have := xr7_1; omega)), (show ∀ j : Nat, j ≠ a.toNatClampNeg → n8 j = (fa 0 2) j from xr7_0), (show (((r7 : Int32).toInt < 0 ∧ (n8 a.toNatClampNeg) = ((fa 0 2) a.toNatClampNeg)) ∨ (0 ≤ (r7 : Int32).toInt ∧ (n8 a.toNatClampNeg).toInt = (r7 : Int32).toInt)) from (by have := congrArg Int32.toInt ev5; have h1 := xr7_1; have h2 := xr7_2; exact Or.inr ⟨by omega, by omega⟩)), (show (((r7 : Int32).toInt < 0 ∧ ∀ j : Nat, n9 j = (fa 0 6) j) ∨ (0 ≤ (r7 : Int32).toInt ∧ Ins (fa 0 6) n9 (8 * ((a).toInt).toNat) ((((fa 0 2) ((a).toInt).toNat).toInt)).toNat (b).toInt)) from Or.inr ⟨by omega, xr7_3⟩), ⟨by omega, by omega⟩, rfl⟩, by rw [ht9]; exact hP9, hD9⟩, hS.F ht9⟩) hS.2.2 dX11_turns_56
          · have fc6 := z_nlt (rfl : (v5).toInt = _) (by decide : (8 : Int32).toInt = 8) c6
            refine lv_ldc hx hb hown (ht _ m_463) dX11_turns_42 ?_
            refine lv_goto (tgt := 56) hx hb dX11_turns_44 (by decide) ?_
            have : ((-100004) : Int32).toInt = (-100004) := (by decide)
            have hP9 : va_P (dC, dI) classes (WX h g ca iv lv (u2 (u2 fa 0 2 (fa 0 2)) 0 6 (fa 0 6)) la) s.heap := hP
            have hD9 : va_D A (WX h g ca iv lv (u2 (u2 fa 0 2 (fa 0 2)) 0 6 (fa 0 6)) la) := hD
            exact W.iret (v := (-100004)) hx hb hr (fun t ht9 hW => ⟨⟨(-100004), (iv, lv, (u2 (u2 fa 0 2 (fa 0 2)) 0 6 (fa 0 6)), la), rfl, ⟨(fa 0 2), (fa 0 6), (hI.2 0 2), (show ((((-100004) : Int32).toInt = -100001 ∧ ¬ (0 ≤ (a).toInt ∧ (a).toInt < (iv 0 7).toInt)) ∨ (((-100004) : Int32).toInt = -100002 ∧ 0 ≤ (a).toInt ∧ (a).toInt < (iv 0 7).toInt ∧ ¬ (0 ≤ (b).toInt ∧ (b).toInt ≤ 999)) ∨ (((-100004) : Int32).toInt = -100004 ∧ 0 ≤ (a).toInt ∧ (a).toInt < (iv 0 7).toInt ∧ 0 ≤ (b).toInt ∧ (b).toInt ≤ 999 ∧ 8 ≤ ((fa 0 2) a.toNatClampNeg).toInt) ∨ (0 ≤ (a).toInt ∧ (a).toInt < (iv 0 7).toInt ∧ 0 ≤ (b).toInt ∧ (b).toInt ≤ 999 ∧ ((fa 0 2) a.toNatClampNeg).toInt < 8 ∧ ((-100004) : Int32).toInt = ((fa 0 2) a.toNatClampNeg).toInt + 1)) from (by have := congrArg Int32.toInt ev5; omega)), (show ∀ j : Nat, j ≠ a.toNatClampNeg → (fa 0 2) j = (fa 0 2) j from fun j hj => rfl), (show ((((-100004) : Int32).toInt < 0 ∧ ((fa 0 2) a.toNatClampNeg) = ((fa 0 2) a.toNatClampNeg)) ∨ (0 ≤ ((-100004) : Int32).toInt ∧ ((fa 0 2) a.toNatClampNeg).toInt = ((-100004) : Int32).toInt)) from Or.inl ⟨by omega, rfl⟩), (show ((((-100004) : Int32).toInt < 0 ∧ ∀ j : Nat, (fa 0 6) j = (fa 0 6) j) ∨ (0 ≤ ((-100004) : Int32).toInt ∧ Ins (fa 0 6) (fa 0 6) (8 * ((a).toInt).toNat) ((((fa 0 2) ((a).toInt).toNat).toInt)).toNat (b).toInt)) from Or.inl ⟨by omega, fun j => rfl⟩), ⟨by decide, by decide⟩, rfl⟩, by rw [ht9]; exact hP9, hD9⟩, hS.F ht9⟩) hS.2.2 dX11_turns_56
        · exact absurd c4 (by decide)
      · skip
        refine lv_if_ne (tgt := 28) hx hb dX11_turns_22 (by decide) (fun c10 => ?_) (fun c10 => ?_)
        · exact absurd rfl c10
        · skip
          refine lv_ldc hx hb hown (ht _ m_456) dX11_turns_25 ?_
          have : ((-100002) : Int32).toInt = (-100002) := (by decide)
          have hP9 : va_P (dC, dI) classes (WX h g ca iv lv (u2 (u2 fa 0 2 (fa 0 2)) 0 6 (fa 0 6)) la) s.heap := hP
          have hD9 : va_D A (WX h g ca iv lv (u2 (u2 fa 0 2 (fa 0 2)) 0 6 (fa 0 6)) la) := hD
          exact W.iret (v := (-100002)) hx hb hr (fun t ht9 hW => ⟨⟨(-100002), (iv, lv, (u2 (u2 fa 0 2 (fa 0 2)) 0 6 (fa 0 6)), la), rfl, ⟨(fa 0 2), (fa 0 6), (hI.2 0 2), (show ((((-100002) : Int32).toInt = -100001 ∧ ¬ (0 ≤ (a).toInt ∧ (a).toInt < (iv 0 7).toInt)) ∨ (((-100002) : Int32).toInt = -100002 ∧ 0 ≤ (a).toInt ∧ (a).toInt < (iv 0 7).toInt ∧ ¬ (0 ≤ (b).toInt ∧ (b).toInt ≤ 999)) ∨ (((-100002) : Int32).toInt = -100004 ∧ 0 ≤ (a).toInt ∧ (a).toInt < (iv 0 7).toInt ∧ 0 ≤ (b).toInt ∧ (b).toInt ≤ 999 ∧ 8 ≤ ((fa 0 2) a.toNatClampNeg).toInt) ∨ (0 ≤ (a).toInt ∧ (a).toInt < (iv 0 7).toInt ∧ 0 ≤ (b).toInt ∧ (b).toInt ≤ 999 ∧ ((fa 0 2) a.toNatClampNeg).toInt < 8 ∧ ((-100002) : Int32).toInt = ((fa 0 2) a.toNatClampNeg).toInt + 1)) from (by omega)), (show ∀ j : Nat, j ≠ a.toNatClampNeg → (fa 0 2) j = (fa 0 2) j from fun j hj => rfl), (show ((((-100002) : Int32).toInt < 0 ∧ ((fa 0 2) a.toNatClampNeg) = ((fa 0 2) a.toNatClampNeg)) ∨ (0 ≤ ((-100002) : Int32).toInt ∧ ((fa 0 2) a.toNatClampNeg).toInt = ((-100002) : Int32).toInt)) from Or.inl ⟨by omega, rfl⟩), (show ((((-100002) : Int32).toInt < 0 ∧ ∀ j : Nat, (fa 0 6) j = (fa 0 6) j) ∨ (0 ≤ ((-100002) : Int32).toInt ∧ Ins (fa 0 6) (fa 0 6) (8 * ((a).toInt).toNat) ((((fa 0 2) ((a).toInt).toNat).toInt)).toNat (b).toInt)) from Or.inl ⟨by omega, fun j => rfl⟩), ⟨by decide, by decide⟩, rfl⟩, by rw [ht9]; exact hP9, hD9⟩, hS.F ht9⟩) hS.2.2 dX11_turns_27
    · exact absurd c2 (by decide)
  · skip
    have i_0_7 : 0 ≤ (iv 0 7).toInt ∧ (iv 0 7).toInt ≤ 10 := hI.1 0 7
    have fr1 : ¬ (0 ≤ (a : Int32).toInt ∧ (a : Int32).toInt < ((iv 0 7) : Int32).toInt) := fr1
    refine lv_if_ne (tgt := 14) hx hb dX11_turns_8 (by decide) (fun c11 => ?_) (fun c11 => ?_)
    · exact absurd rfl c11
    · skip
      refine lv_ldc hx hb hown (ht _ m_476) dX11_turns_11 ?_
      have : ((-100001) : Int32).toInt = (-100001) := (by decide)
      have hP9 : va_P (dC, dI) classes (WX h g ca iv lv (u2 (u2 fa 0 2 (fa 0 2)) 0 6 (fa 0 6)) la) s.heap := hP
      have hD9 : va_D A (WX h g ca iv lv (u2 (u2 fa 0 2 (fa 0 2)) 0 6 (fa 0 6)) la) := hD
      exact W.iret (v := (-100001)) hx hb hr (fun t ht9 hW => ⟨⟨(-100001), (iv, lv, (u2 (u2 fa 0 2 (fa 0 2)) 0 6 (fa 0 6)), la), rfl, ⟨(fa 0 2), (fa 0 6), (hI.2 0 2), (show ((((-100001) : Int32).toInt = -100001 ∧ ¬ (0 ≤ (a).toInt ∧ (a).toInt < (iv 0 7).toInt)) ∨ (((-100001) : Int32).toInt = -100002 ∧ 0 ≤ (a).toInt ∧ (a).toInt < (iv 0 7).toInt ∧ ¬ (0 ≤ (b).toInt ∧ (b).toInt ≤ 999)) ∨ (((-100001) : Int32).toInt = -100004 ∧ 0 ≤ (a).toInt ∧ (a).toInt < (iv 0 7).toInt ∧ 0 ≤ (b).toInt ∧ (b).toInt ≤ 999 ∧ 8 ≤ ((fa 0 2) a.toNatClampNeg).toInt) ∨ (0 ≤ (a).toInt ∧ (a).toInt < (iv 0 7).toInt ∧ 0 ≤ (b).toInt ∧ (b).toInt ≤ 999 ∧ ((fa 0 2) a.toNatClampNeg).toInt < 8 ∧ ((-100001) : Int32).toInt = ((fa 0 2) a.toNatClampNeg).toInt + 1)) from (by omega)), (show ∀ j : Nat, j ≠ a.toNatClampNeg → (fa 0 2) j = (fa 0 2) j from fun j hj => rfl), (show ((((-100001) : Int32).toInt < 0 ∧ ((fa 0 2) a.toNatClampNeg) = ((fa 0 2) a.toNatClampNeg)) ∨ (0 ≤ ((-100001) : Int32).toInt ∧ ((fa 0 2) a.toNatClampNeg).toInt = ((-100001) : Int32).toInt)) from Or.inl ⟨by omega, rfl⟩), (show ((((-100001) : Int32).toInt < 0 ∧ ∀ j : Nat, (fa 0 6) j = (fa 0 6) j) ∨ (0 ≤ ((-100001) : Int32).toInt ∧ Ins (fa 0 6) (fa 0 6) (8 * ((a).toInt).toNat) ((((fa 0 2) ((a).toInt).toNat).toInt)).toNat (b).toInt)) from Or.inl ⟨by omega, fun j => rfl⟩), ⟨by decide, by decide⟩, rfl⟩, by rw [ht9]; exact hP9, hD9⟩, hS.F ht9⟩) hS.2.2 dX11_turns_13
set_option maxHeartbeats 4000000 in
set_option maxRecDepth 100000 in
/-- X0_middleTwist -/
theorem c_X0_middleTwist_w (l : Launch) (dC : Nat → ClassId) (dI : Nat → Nat → Nat) (h : Nat) (g : Nat → Nat → Nat) (ca : Nat → Nat → ClassId) (iv : Nat → Nat → Int32) (lv : Nat → Nat → Int64) (fa : Nat → Nat → Nat → Int32) (la : Nat → Nat → Nat → Int64) (hI : IX iv fa) (b : Int32) (h_b : 0 ≤ b.toInt ∧ b.toInt ≤ 9) : Met l yX0_middleTwist (wc yX0_middleTwist cX0_middleTwist 2 (some .int)) ({ frames := 0, cells := 0, slots := 0, locals := 0 } : Room) (pR (dC, dI) classes (WX h g ca iv lv fa la) (TX ca) [.ref (g 11 2), .int b]) (vp_Si (fun r => (True) ∧ ((((((fa 0 2) (b.toInt).toNat).toInt) = 0 ∧ r.toInt = -1) ∨ (0 < (((fa 0 2) (b.toInt).toNat).toInt) ∧ r.toInt = ((fa 0 6) (8 * (b.toInt).toNat + (((((fa 0 2) (b.toInt).toNat).toInt)).toNat - 1) / 2)).toInt))))) 0 0 (fun _ => False) := by
  refine Met.ofW (cc := cX0_middleTwist) (maxL := 2) (ret := (some .int)) (by decide) rfl ?_
  intro p e s m args below meth c s₁ B hml hv
  obtain ⟨rfl, hP, hK⟩ := hv
  have hx := B.exec
  have hb := B.bytes
  have hr := B.returns
  have ht := tb_tl (atoms_spec (ws := wc yX0_middleTwist cX0_middleTwist 2 (some .int)) B.pre)
  have hown : s.vm.findClass RX0 = some m.cls := findClass_of_methodNamed B.named
  have hlocks := B.notSynchronized
  have hl := lv_entry [.ref (g 11 2), .int b] (n := 2) (Nat.le_of_ble_eq_true rfl)
  rw [lg_entry_eq]
  generalize (lg_sl [.ref (g 11 2), .int b] ++ List.replicate (2 - (lg_sl [.ref (g 11 2), .int b]).length) Slot.unset).toArray = ls at hl ⊢
  have hl : lv_has ls 2 [(0, .ref (g 11 2)), (1, .int b)] := hl
  refine lv_aload_n hx hb dX0_middleTwist_0 rfl (lv_at hl 0 rfl) ?_
  refine va_get (D := (dC, dI)) (ci := 0) (v := .ref (g 0 2)) (fs := fX0 h g iv lv) (C := RX0) (T := TX0) (N := 8) hx hb ht inX0 hown hK hP 3 rfl rfl 2 (by decide) (ht _ m_156) (fun _ h9 => h9) rfl dX0_middleTwist_1 ?_
  refine lv_iload_n hx hb dX0_middleTwist_4 rfl (lv_at hl 1 rfl) ?_
  refine va_iald (D := (dC, dI)) hx hb hK hP 19 6 (f := (fa 0 2)) rfl rfl (vp_in_iff.mpr ⟨by omega, by omega⟩) dX0_middleTwist_5 ?_
  refine lv_topi (fun v1 ev1 => ?_)
  have tv1 : 0 ≤ v1.toInt ∧ v1.toInt ≤ 8 := by rw [ev1]; exact hI.2 0 2 _
  refine lv_if_ne (tgt := 13) hx hb dX0_middleTwist_6 (by decide) (fun c2 => ?_) (fun c2 => ?_)
  · have fc2 := z_ne (rfl : (v1).toInt = _) (by decide : (0 : Int32).toInt = 0) c2
    refine lv_aload_n hx hb dX0_middleTwist_13 rfl (lv_at hl 0 rfl) ?_
    refine va_get (D := (dC, dI)) (ci := 0) (v := .ref (g 0 6)) (fs := fX0 h g iv lv) (C := RX0) (T := TX0) (N := 8) hx hb ht inX0 hown hK hP 3 rfl rfl 6 (by decide) (ht _ m_163) (fun _ h9 => h9) rfl dX0_middleTwist_14 ?_
    refine lv_iload_n hx hb dX0_middleTwist_17 rfl (lv_at hl 1 rfl) ?_
    refine lv_bipush (v := 8) hx hb dX0_middleTwist_18 (by decide) ?_
    refine lv_imul hx hb dX0_middleTwist_20 ?_
    refine lv_topi (fun v3 ev3 => ?_)
    have tv3 := z_mul ev3 (rfl : (b).toInt = _) (by decide : (8 : Int32).toInt = 8) (by omega) (by omega)
    refine lv_aload_n hx hb dX0_middleTwist_21 rfl (lv_at hl 0 rfl) ?_
    refine va_get (D := (dC, dI)) (ci := 0) (v := .ref (g 0 2)) (fs := fX0 h g iv lv) (C := RX0) (T := TX0) (N := 8) hx hb ht inX0 hown hK hP 3 rfl rfl 2 (by decide) (ht _ m_156) (fun _ h9 => h9) rfl dX0_middleTwist_22 ?_
    refine lv_iload_n hx hb dX0_middleTwist_25 rfl (lv_at hl 1 rfl) ?_
    refine va_iald (D := (dC, dI)) hx hb hK hP 19 6 (f := (fa 0 2)) rfl rfl (vp_in_iff.mpr ⟨by omega, by omega⟩) dX0_middleTwist_26 ?_
    refine lv_topi (fun v4 ev4 => ?_)
    obtain rfl : v1 = v4 := ev1.trans ev4.symm
    refine lv_iconst (v := 1) hx hb dX0_middleTwist_27 (by decide) ?_
    refine lv_isub hx hb dX0_middleTwist_28 ?_
    refine lv_topi (fun v5 ev5 => ?_)
    have tv5 := z_sub ev5 (rfl : (v1).toInt = _) (by decide : (1 : Int32).toInt = 1) (by omega) (by omega)
    refine lv_iconst (v := 2) hx hb dX0_middleTwist_29 (by decide) ?_
    refine lv_idiv hx hb dX0_middleTwist_30 (by decide) ?_
    refine lv_topi (fun v6 ev6 => ?_)
    have tv6 := z_divp ev6 (rfl : (v5).toInt = _) (by decide : (2 : Int32).toInt = 2) (by omega) (by omega)
    refine lv_iadd hx hb dX0_middleTwist_31 ?_
    refine lv_topi (fun v7 ev7 => ?_)
    have tv7 := z_add ev7 (rfl : (v3).toInt = _) (rfl : (v6).toInt = _) (by omega) (by omega)
    refine va_iald (D := (dC, dI)) hx hb hK hP 23 10 (f := (fa 0 6)) rfl rfl (vp_in_iff.mpr ⟨by omega, by omega⟩) dX0_middleTwist_32 ?_
    refine lv_topi (fun v8 ev8 => ?_)
    exact W.iret (v := v8) hx hb hr (fun t ht9 hW => ⟨v8, rfl, ⟨trivial, (show (((((fa 0 2) ((b).toInt).toNat).toInt) = 0 ∧ (v8 : Int32).toInt = -1) ∨ (0 < (((fa 0 2) ((b).toInt).toNat).toInt) ∧ (v8 : Int32).toInt = ((fa 0 6) (8 * ((b).toInt).toNat + (((((fa 0 2) ((b).toInt).toNat).toInt)).toNat - 1) / 2)).toInt)) from (by have h1 := congrArg Int32.toInt (show v1 = fa 0 2 (b.toInt).toNat from ev1); have h3 := congrArg Int32.toInt ev8; have h2 : (v7 : Int32).toNatClampNeg = 8 * (b.toInt).toNat + ((fa 0 2 (b.toInt).toNat).toInt.toNat - 1) / 2 := (by show (v7 : Int32).toInt.toNat = _; omega); rw [h2] at h3; exact Or.inr ⟨by omega, h3⟩))⟩, ht9⟩) (fun q hq => by cases hq) dX0_middleTwist_33
  · have fc2 := z_eq (rfl : (v1).toInt = _) (by decide : (0 : Int32).toInt = 0) c2
    refine lv_iconst (v := (-1)) hx hb dX0_middleTwist_9 (by decide) ?_
    refine lv_goto (tgt := 33) hx hb dX0_middleTwist_10 (by decide) ?_
    have : ((-1) : Int32).toInt = (-1) := (by decide)
    exact W.iret (v := (-1)) hx hb hr (fun t ht9 hW => ⟨(-1), rfl, ⟨trivial, (show (((((fa 0 2) ((b).toInt).toNat).toInt) = 0 ∧ ((-1) : Int32).toInt = -1) ∨ (0 < (((fa 0 2) ((b).toInt).toNat).toInt) ∧ ((-1) : Int32).toInt = ((fa 0 6) (8 * ((b).toInt).toNat + (((((fa 0 2) ((b).toInt).toNat).toInt)).toNat - 1) / 2)).toInt)) from (by have h1 := congrArg Int32.toInt (show v1 = fa 0 2 (b.toInt).toNat from ev1); exact Or.inl ⟨by omega, by omega⟩))⟩, ht9⟩) (fun q hq => by cases hq) dX0_middleTwist_33
set_option maxHeartbeats 4000000 in
set_option maxRecDepth 100000 in
/-- X11_twist -/
theorem c_X11_twist_w (l : Launch) (dC : Nat → ClassId) (dI : Nat → Nat → Nat) (h : Nat) (g : Nat → Nat → Nat) (ca : Nat → Nat → ClassId) (iv : Nat → Nat → Int32) (lv : Nat → Nat → Int64) (fa : Nat → Nat → Nat → Int32) (la : Nat → Nat → Nat → Int64) (hI : IX iv fa) (a : Int32) : Met l yX11_twist (wc yX11_twist cX11_twist 2 (some .int)) ({ frames := 1, cells := 0, slots := 0, locals := 21 } : Room) (pR (dC, dI) classes (WX h g ca iv lv fa la) (TX ca) [.ref h, .int a]) (vp_Si (fun r => (True) ∧ (((r.toInt = -100001 ∧ ¬ (0 ≤ a.toInt ∧ a.toInt < (iv 0 7).toInt)) ∨ ((0 ≤ a.toInt ∧ a.toInt < (iv 0 7).toInt) ∧ (((((fa 0 2) (a.toInt).toNat).toInt) = 0 ∧ r.toInt = -1) ∨ (0 < (((fa 0 2) (a.toInt).toNat).toInt) ∧ r.toInt = ((fa 0 6) (8 * (a.toInt).toNat + (((((fa 0 2) (a.toInt).toNat).toInt)).toNat - 1) / 2)).toInt))))))) 0 0 (fun _ => False) := by
  refine Met.ofW (cc := cX11_twist) (maxL := 2) (ret := (some .int)) (by decide) rfl ?_
  intro p e s m args below meth c s₁ B hml hv
  obtain ⟨rfl, hP, hK⟩ := hv
  have hx := B.exec
  have hb := B.bytes
  have hr := B.returns
  have ht := tb_tl (atoms_spec (ws := wc yX11_twist cX11_twist 2 (some .int)) B.pre)
  have hown : s.vm.findClass RX11 = some m.cls := findClass_of_methodNamed B.named
  have hlocks := B.notSynchronized
  have hl := lv_entry [.ref h, .int a] (n := 2) (Nat.le_of_ble_eq_true rfl)
  rw [lg_entry_eq]
  generalize (lg_sl [.ref h, .int a] ++ List.replicate (2 - (lg_sl [.ref h, .int a]).length) Slot.unset).toArray = ls at hl ⊢
  have hl : lv_has ls 2 [(0, .ref h), (1, .int a)] := hl
  refine lv_aload_n hx hb dX11_twist_0 rfl (lv_at hl 0 rfl) ?_
  refine va_get (D := (dC, dI)) (ci := 11) (v := .ref (g 11 2)) (fs := fX11 h g iv lv) (C := RX11) (T := TX11) (N := 11) hx hb ht inX11 hown hK hP 0 rfl rfl 2 (by decide) (ht _ m_417) (fun _ h9 => h9) rfl dX11_twist_1 ?_
  refine lv_iload_n hx hb dX11_twist_4 rfl (lv_at hl 1 rfl) ?_
  refine vp_callSi (W.runV (As := [.int a]) (rest := []) ⟨hx, hb, hml, hown, ht⟩ (c_X0_has l dC dI h g ca iv lv fa la hI a) (kV 1 ht m_472 m_473 m_474 m_80 m_475 rfl rfl hd_X0_has_v ⟨Nat.le_of_ble_eq_true rfl, Nat.le_of_ble_eq_true rfl⟩) (vR hP hK (va_recv hK hP (ci := 0) (q0 := 3) rfl rfl)) rfl rfl hl.1 rfl (lv_room (Nat.le_of_ble_eq_true rfl)) dX11_twist_5 ⟨Nat.le_of_ble_eq_true rfl, Nat.le_of_ble_eq_true rfl⟩) (fun r1 hr1 => ?_)
  rcases hr1 with ⟨rfl, fr1⟩ | ⟨rfl, fr1⟩
  · skip
    have i_0_7 : 0 ≤ (iv 0 7).toInt ∧ (iv 0 7).toInt ≤ 10 := hI.1 0 7
    have fr1 : (0 ≤ (a : Int32).toInt ∧ (a : Int32).toInt < ((iv 0 7) : Int32).toInt) := fr1
    refine lv_if_eq (tgt := 22) hx hb dX11_twist_8 (by decide) (fun c2 => ?_) (fun c2 => ?_)
    · exact absurd c2 (by decide)
    · skip
      refine lv_aload_n hx hb dX11_twist_11 rfl (lv_at hl 0 rfl) ?_
      refine va_get (D := (dC, dI)) (ci := 11) (v := .ref (g 11 2)) (fs := fX11 h g iv lv) (C := RX11) (T := TX11) (N := 11) hx hb ht inX11 hown hK hP 0 rfl rfl 2 (by decide) (ht _ m_417) (fun _ h9 => h9) rfl dX11_twist_12 ?_
      refine lv_iload_n hx hb dX11_twist_15 rfl (lv_at hl 1 rfl) ?_
      refine vp_callSi (W.runV (As := [.int a]) (rest := []) ⟨hx, hb, hml, hown, ht⟩ (c_X0_middleTwist_w l dC dI h g ca iv lv fa la hI a ⟨by omega, by omega⟩) (kV 1 ht m_985 m_986 m_987 m_80 m_988 rfl rfl hd_X0_middleTwist_v ⟨Nat.le_of_ble_eq_true rfl, Nat.le_of_ble_eq_true rfl⟩) (vR hP hK (va_recv hK hP (ci := 0) (q0 := 3) rfl rfl)) rfl rfl hl.1 rfl (lv_room (Nat.le_of_ble_eq_true rfl)) dX11_twist_16 ⟨Nat.le_of_ble_eq_true rfl, Nat.le_of_ble_eq_true rfl⟩) (fun r3 hr3 => ?_)
      obtain ⟨hr3, xr3_0⟩ := hr3
      have xr3_0 : (((((fa 0 2) ((a : Int32).toInt).toNat).toInt) = 0 ∧ (r3 : Int32).toInt = -1) ∨ (0 < (((fa 0 2) ((a : Int32).toInt).toNat).toInt) ∧ (r3 : Int32).toInt = ((fa 0 6) (8 * ((a : Int32).toInt).toNat + (((((fa 0 2) ((a : Int32).toInt).toNat).toInt)).toNat - 1) / 2)).toInt)) := xr3_0
      refine lv_goto (tgt := 24) hx hb dX11_twist_19 (by decide) ?_
      exact W.iret (v := r3) hx hb hr (fun t ht9 hW => ⟨r3, rfl, ⟨trivial, (show (((r3 : Int32).toInt = -100001 ∧ ¬ (0 ≤ (a).toInt ∧ (a).toInt < (iv 0 7).toInt)) ∨ ((0 ≤ (a).toInt ∧ (a).toInt < (iv 0 7).toInt) ∧ (((((fa 0 2) ((a).toInt).toNat).toInt) = 0 ∧ (r3 : Int32).toInt = -1) ∨ (0 < (((fa 0 2) ((a).toInt).toNat).toInt) ∧ (r3 : Int32).toInt = ((fa 0 6) (8 * ((a).toInt).toNat + (((((fa 0 2) ((a).toInt).toNat).toInt)).toNat - 1) / 2)).toInt)))) from by omega)⟩, ht9⟩) (fun q hq => by cases hq) dX11_twist_24
  · skip
    have i_0_7 : 0 ≤ (iv 0 7).toInt ∧ (iv 0 7).toInt ≤ 10 := hI.1 0 7
    have fr1 : ¬ (0 ≤ (a : Int32).toInt ∧ (a : Int32).toInt < ((iv 0 7) : Int32).toInt) := fr1
    refine lv_if_eq (tgt := 22) hx hb dX11_twist_8 (by decide) (fun c4 => ?_) (fun c4 => ?_)
    · skip
      refine lv_ldc hx hb hown (ht _ m_476) dX11_twist_22 ?_
      have : ((-100001) : Int32).toInt = (-100001) := (by decide)
      exact W.iret (v := (-100001)) hx hb hr (fun t ht9 hW => ⟨(-100001), rfl, ⟨trivial, (show ((((-100001) : Int32).toInt = -100001 ∧ ¬ (0 ≤ (a).toInt ∧ (a).toInt < (iv 0 7).toInt)) ∨ ((0 ≤ (a).toInt ∧ (a).toInt < (iv 0 7).toInt) ∧ (((((fa 0 2) ((a).toInt).toNat).toInt) = 0 ∧ ((-100001) : Int32).toInt = -1) ∨ (0 < (((fa 0 2) ((a).toInt).toNat).toInt) ∧ ((-100001) : Int32).toInt = ((fa 0 6) (8 * ((a).toInt).toNat + (((((fa 0 2) ((a).toInt).toNat).toInt)).toNat - 1) / 2)).toInt)))) from by omega)⟩, ht9⟩) (fun q hq => by cases hq) dX11_twist_24
    · exact absurd rfl c4
