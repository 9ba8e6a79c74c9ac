/-! ===== rd1 ===== -/
set_option maxHeartbeats 4000000 in
set_option maxRecDepth 100000 in
/-- X8_skipBlanks -/
theorem c_X8_skipBlanks_r (l : Launch) (dC : Nat → ClassId) (dI : Nat → Nat → Nat) (sz : Nat) (h : Nat) (g : Nat → Nat → Nat) (ca : Nat → Nat → ClassId) (iv : Nat → Nat → Int32) (lv : Nat → Nat → Int64) (fa : Nat → Nat → Nat → Int32) (la : Nat → Nat → Nat → Int64) (hI : IX iv fa) : Met l yX8_skipBlanks (wc yX8_skipBlanks cX8_skipBlanks 1 (some .boolean)) ({ frames := 0, cells := 0, slots := 0, locals := 0 } : Room) (pW (dC, dI) classes (WX h g ca iv lv fa la) (TX ca) sz [.ref (g 11 4)]) (va_Qi (fun r (u : SS) => ∃ (ni_8_5 : Int32), inb (bI 8 5) ni_8_5 ∧ (Sk (fun j => ((fa 8 1) j).toInt) (iv 8 2).toInt (iv 8 5).toInt (ni_8_5).toInt) ∧ (((r.toInt = 1 ∧ (ni_8_5).toInt < (iv 8 2).toInt) ∨ (r.toInt = 0 ∧ (iv 8 2).toInt ≤ (ni_8_5).toInt))) ∧ (0 ≤ r.toInt ∧ r.toInt ≤ 1) ∧ u = ((u2 iv 8 5 ni_8_5), lv, fa, la)) (bX (dC, dI) h g ca (va_A (WX h g ca iv lv fa la) sz)) (va_A (WX h g ca iv lv fa la) sz)) 0 0 (va_A (WX h g ca iv lv fa la) sz) := by
  refine Met.ofW (cc := cX8_skipBlanks) (maxL := 1) (ret := (some .boolean)) (by decide) rfl ?_
  intro p e s m args below meth c s₁ B hml hv
  obtain ⟨rfl, hsz, hP, hK, hD0⟩ := hv
  have hx := B.exec
  have hb := B.bytes
  have hr := B.returns
  have ht := tb_tl (atoms_spec (ws := wc yX8_skipBlanks cX8_skipBlanks 1 (some .boolean)) B.pre)
  have hown : s.vm.findClass RX8 = some m.cls := findClass_of_methodNamed B.named
  have hlocks := B.notSynchronized
  subst hsz
  have hD := hD0.self (sz := s.heap.size)
  generalize hAe : va_A (WX h g ca iv lv fa la) s.heap.size = A at hD ⊢
  have hA : ∀ q : Nat, s.heap.size ≤ q → A q := fun q h => by rw [← hAe]; exact Or.inr h
  have hS : va_S A s.heap s.heap [] := va_S.rf
  have hl := lv_entry [.ref (g 11 4)] (n := 1) (Nat.le_of_ble_eq_true rfl)
  rw [lg_entry_eq]
  generalize (lg_sl [.ref (g 11 4)] ++ List.replicate (1 - (lg_sl [.ref (g 11 4)]).length) Slot.unset).toArray = ls at hl ⊢
  have hl : lv_has ls 1 [(0, .ref (g 11 4))] := hl
  have i_8_2 : 0 ≤ (iv 8 2).toInt ∧ (iv 8 2).toInt ≤ 200 := hI.1 8 2
  have lp16 : ∀ (nn16 : Nat) (w15_i_8_5 : Int32), 0 ≤ w15_i_8_5.toInt ∧ w15_i_8_5.toInt ≤ 200 → (iv 8 5).toInt ≤ (w15_i_8_5 : Int32).toInt → (∀ j : Nat, (iv 8 5).toInt ≤ (j : Int) → (j : Int) < (w15_i_8_5 : Int32).toInt → (j : Int) < ((iv 8 2) : Int32).toInt ∧ ((fa 8 1) j).toInt = 32) → 200 - w15_i_8_5.toInt < (nn16 : Int) → ∀ (H : Heap) (locs : List Loc), ∀ (ls : Array Slot), va_P (dC, dI) classes (WX h g ca (u2 iv 8 5 w15_i_8_5) lv fa la) H → va_D A (WX h g ca (u2 iv 8 5 w15_i_8_5) lv fa la) → va_S A s.heap H locs → lv_has ls 1 [(0, .ref (g 11 4))] → W p l e ({ frames := 0, cells := 0, slots := 0, locals := 0 } : Room) s m ([.ref (g 11 4)] : List Value).toArray below meth c H locs 0 0 (MQ below (va_Qi (fun r (u : SS) => ∃ (ni_8_5 : Int32), inb (bI 8 5) ni_8_5 ∧ (Sk (fun j => ((fa 8 1) j).toInt) (iv 8 2).toInt (iv 8 5).toInt (ni_8_5).toInt) ∧ (((r.toInt = 1 ∧ (ni_8_5).toInt < (iv 8 2).toInt) ∨ (r.toInt = 0 ∧ (iv 8 2).toInt ≤ (ni_8_5).toInt))) ∧ (0 ≤ r.toInt ∧ r.toInt ≤ 1) ∧ u = ((u2 iv 8 5 ni_8_5), lv, fa, la)) (bX (dC, dI) h g ca A) A) ([.ref (g 11 4)] : List Value).toArray s 0 0 A) (F0 m 0 ls []) := by
    intro nn16
    induction nn16 with
    | zero => intro w15_i_8_5 hw15_i_8_5 hq16_0 hq16_1 hm16; exfalso; omega
    | succ nn16 ih16 =>
      intro w15_i_8_5 hw15_i_8_5 hq16_0 hq16_1 hm16 H locs ls hP hD hS hl
      refine lv_aload_n hx hb dX8_skipBlanks_0 rfl (lv_at hl 0 rfl) ?_
      refine gX_8_5 hx hb ht hown hK hP m_235 (v := w15_i_8_5) rfl dX8_skipBlanks_1 ?_
      refine lv_aload_n hx hb dX8_skipBlanks_4 rfl (lv_at hl 0 rfl) ?_
      refine gX_8_2 hx hb ht hown hK hP m_230 (v := (iv 8 2)) rfl dX8_skipBlanks_5 ?_
      refine lv_icmp_ge (tgt := 38) hx hb dX8_skipBlanks_8 (by decide) (fun c17 => ?_) (fun c17 => ?_)
      · have fc17 := z_le (rfl : ((iv 8 2)).toInt = _) (rfl : (w15_i_8_5).toInt = _) c17
        refine lv_aload_n hx hb dX8_skipBlanks_38 rfl (lv_at hl 0 rfl) ?_
        refine gX_8_5 hx hb ht hown hK hP m_235 (v := w15_i_8_5) rfl dX8_skipBlanks_39 ?_
        refine lv_aload_n hx hb dX8_skipBlanks_42 rfl (lv_at hl 0 rfl) ?_
        refine gX_8_2 hx hb ht hown hK hP m_230 (v := (iv 8 2)) rfl dX8_skipBlanks_43 ?_
        refine lv_icmp_ge (tgt := 53) hx hb dX8_skipBlanks_46 (by decide) (fun c18 => ?_) (fun c18 => ?_)
        · have fc18 := z_le (rfl : ((iv 8 2)).toInt = _) (rfl : (w15_i_8_5).toInt = _) c18
          refine lv_iconst (v := 0) hx hb dX8_skipBlanks_53 (by decide) ?_
          have : (0 : Int32).toInt = 0 := (by decide)
          have hP9 : va_P (dC, dI) classes (WX h g ca (u2 iv 8 5 w15_i_8_5) lv fa la) H := hP
          have hD9 : va_D A (WX h g ca (u2 iv 8 5 w15_i_8_5) lv fa la) := hD
          exact W.zret (v := 0) hx hb hr rfl (fun t ht9 hW => ⟨⟨0, ((u2 iv 8 5 w15_i_8_5), lv, fa, la), rfl, ⟨w15_i_8_5, (show inb (0, 200) w15_i_8_5 from ⟨by omega, by omega⟩), (show Sk (fun j => ((fa 8 1) j).toInt) ((iv 8 2) : Int32).toInt (iv 8 5).toInt (w15_i_8_5 : Int32).toInt from ⟨by omega, hq16_1, fun q => by omega⟩), (show (((0 : Int32).toInt = 1 ∧ (w15_i_8_5 : Int32).toInt < ((iv 8 2) : Int32).toInt) ∨ ((0 : Int32).toInt = 0 ∧ ((iv 8 2) : Int32).toInt ≤ (w15_i_8_5 : Int32).toInt)) from by omega), ⟨by decide, by decide⟩, rfl⟩, by rw [ht9]; exact hP9, hD9⟩, hS.F ht9⟩) hS.2.2 dX8_skipBlanks_54
        · have fc18 := z_nle (rfl : ((iv 8 2)).toInt = _) (rfl : (w15_i_8_5).toInt = _) c18
          refine lv_iconst (v := 1) hx hb dX8_skipBlanks_49 (by decide) ?_
          refine lv_goto (tgt := 54) hx hb dX8_skipBlanks_50 (by decide) ?_
          have : (1 : Int32).toInt = 1 := (by decide)
          have hP9 : va_P (dC, dI) classes (WX h g ca (u2 iv 8 5 w15_i_8_5) lv fa la) H := hP
          have hD9 : va_D A (WX h g ca (u2 iv 8 5 w15_i_8_5) lv fa la) := hD
          exact W.zret (v := 1) hx hb hr rfl (fun t ht9 hW => ⟨⟨1, ((u2 iv 8 5 w15_i_8_5), lv, fa, la), rfl, ⟨w15_i_8_5, (show inb (0, 200) w15_i_8_5 from ⟨by omega, by omega⟩), (show Sk (fun j => ((fa 8 1) j).toInt) ((iv 8 2) : Int32).toInt (iv 8 5).toInt (w15_i_8_5 : Int32).toInt from ⟨by omega, hq16_1, fun q => by omega⟩), (show (((1 : Int32).toInt = 1 ∧ (w15_i_8_5 : Int32).toInt < ((iv 8 2) : Int32).toInt) ∨ ((1 : Int32).toInt = 0 ∧ ((iv 8 2) : Int32).toInt ≤ (w15_i_8_5 : Int32).toInt)) from by omega), ⟨by decide, by decide⟩, rfl⟩, by rw [ht9]; exact hP9, hD9⟩, hS.F ht9⟩) hS.2.2 dX8_skipBlanks_54
      · have fc17 := z_nle (rfl : ((iv 8 2)).toInt = _) (rfl : (w15_i_8_5).toInt = _) c17
        refine lv_aload_n hx hb dX8_skipBlanks_11 rfl (lv_at hl 0 rfl) ?_
        refine gX_8_1 hx hb ht hown hK hP m_229 dX8_skipBlanks_12 ?_
        refine lv_aload_n hx hb dX8_skipBlanks_15 rfl (lv_at hl 0 rfl) ?_
        refine gX_8_5 hx hb ht hown hK hP m_235 (v := w15_i_8_5) rfl dX8_skipBlanks_16 ?_
        refine lX_8_1 hx hb hK hP (f := (fa 8 1)) rfl (vp_in_iff.mpr ⟨by omega, by omega⟩) dX8_skipBlanks_19 ?_
        refine lv_topi (fun v19 ev19 => ?_)
        refine lv_bipush (v := 32) hx hb dX8_skipBlanks_20 (by decide) ?_
        refine lv_icmp_ne (tgt := 38) hx hb dX8_skipBlanks_22 (by decide) (fun c20 => ?_) (fun c20 => ?_)
        · have fc20 := z_ne (rfl : (v19).toInt = _) (by decide : (32 : Int32).toInt = 32) c20
          refine lv_aload_n hx hb dX8_skipBlanks_38 rfl (lv_at hl 0 rfl) ?_
          refine gX_8_5 hx hb ht hown hK hP m_235 (v := w15_i_8_5) rfl dX8_skipBlanks_39 ?_
          refine lv_aload_n hx hb dX8_skipBlanks_42 rfl (lv_at hl 0 rfl) ?_
          refine gX_8_2 hx hb ht hown hK hP m_230 (v := (iv 8 2)) rfl dX8_skipBlanks_43 ?_
          refine lv_icmp_ge (tgt := 53) hx hb dX8_skipBlanks_46 (by decide) (fun c21 => ?_) (fun c21 => ?_)
          · have fc21 := z_le (rfl : ((iv 8 2)).toInt = _) (rfl : (w15_i_8_5).toInt = _) c21
            refine lv_iconst (v := 0) hx hb dX8_skipBlanks_53 (by decide) ?_
            have : (0 : Int32).toInt = 0 := (by decide)
            have hP9 : va_P (dC, dI) classes (WX h g ca (u2 iv 8 5 w15_i_8_5) lv fa la) H := hP
            have hD9 : va_D A (WX h g ca (u2 iv 8 5 w15_i_8_5) lv fa la) := hD
            exact W.zret (v := 0) hx hb hr rfl (fun t ht9 hW => ⟨⟨0, ((u2 iv 8 5 w15_i_8_5), lv, fa, la), rfl, ⟨w15_i_8_5, (show inb (0, 200) w15_i_8_5 from ⟨by omega, by omega⟩), (show Sk (fun j => ((fa 8 1) j).toInt) ((iv 8 2) : Int32).toInt (iv 8 5).toInt (w15_i_8_5 : Int32).toInt from ⟨by omega, hq16_1, fun q => by have q2 : (fa 8 1 ((w15_i_8_5 : Int32).toInt).toNat).toInt = 32 := q.2; have hv9 := congrArg Int32.toInt (show v19 = (fa 8 1) ((w15_i_8_5 : Int32).toInt).toNat from ev19); omega⟩), (show (((0 : Int32).toInt = 1 ∧ (w15_i_8_5 : Int32).toInt < ((iv 8 2) : Int32).toInt) ∨ ((0 : Int32).toInt = 0 ∧ ((iv 8 2) : Int32).toInt ≤ (w15_i_8_5 : Int32).toInt)) from by omega), ⟨by decide, by decide⟩, rfl⟩, by rw [ht9]; exact hP9, hD9⟩, hS.F ht9⟩) hS.2.2 dX8_skipBlanks_54
          · have fc21 := z_nle (rfl : ((iv 8 2)).toInt = _) (rfl : (w15_i_8_5).toInt = _) c21
            refine lv_iconst (v := 1) hx hb dX8_skipBlanks_49 (by decide) ?_
            refine lv_goto (tgt := 54) hx hb dX8_skipBlanks_50 (by decide) ?_
            have : (1 : Int32).toInt = 1 := (by decide)
            have hP9 : va_P (dC, dI) classes (WX h g ca (u2 iv 8 5 w15_i_8_5) lv fa la) H := hP
            have hD9 : va_D A (WX h g ca (u2 iv 8 5 w15_i_8_5) lv fa la) := hD
            exact W.zret (v := 1) hx hb hr rfl (fun t ht9 hW => ⟨⟨1, ((u2 iv 8 5 w15_i_8_5), lv, fa, la), rfl, ⟨w15_i_8_5, (show inb (0, 200) w15_i_8_5 from ⟨by omega, by omega⟩), (show Sk (fun j => ((fa 8 1) j).toInt) ((iv 8 2) : Int32).toInt (iv 8 5).toInt (w15_i_8_5 : Int32).toInt from ⟨by omega, hq16_1, fun q => by have q2 : (fa 8 1 ((w15_i_8_5 : Int32).toInt).toNat).toInt = 32 := q.2; have hv9 := congrArg Int32.toInt (show v19 = (fa 8 1) ((w15_i_8_5 : Int32).toInt).toNat from ev19); omega⟩), (show (((1 : Int32).toInt = 1 ∧ (w15_i_8_5 : Int32).toInt < ((iv 8 2) : Int32).toInt) ∨ ((1 : Int32).toInt = 0 ∧ ((iv 8 2) : Int32).toInt ≤ (w15_i_8_5 : Int32).toInt)) from by omega), ⟨by decide, by decide⟩, rfl⟩, by rw [ht9]; exact hP9, hD9⟩, hS.F ht9⟩) hS.2.2 dX8_skipBlanks_54
        · have fc20 := z_eq (rfl : (v19).toInt = _) (by decide : (32 : Int32).toInt = 32) c20
          refine lv_aload_n hx hb dX8_skipBlanks_25 rfl (lv_at hl 0 rfl) ?_
          refine lv_dup hx hb dX8_skipBlanks_26 rfl ?_
          refine gX_8_5 hx hb ht hown hK hP m_235 (v := w15_i_8_5) rfl dX8_skipBlanks_27 ?_
          refine lv_iconst (v := 1) hx hb dX8_skipBlanks_30 (by decide) ?_
          refine lv_iadd hx hb dX8_skipBlanks_31 ?_
          refine lv_topi (fun v22 ev22 => ?_)
          have tv22 := z_add ev22 (rfl : (w15_i_8_5).toInt = _) (by decide : (1 : Int32).toInt = 1) (by omega) (by omega)
          refine pX_8_5 (v := v22) hx hb ht hown hK hP hD hS m_235 dX8_skipBlanks_32 (fun H locs hP hD hS => ?_)
          have hP : va_P (dC, dI) classes (WX h g ca (u2 iv 8 5 v22) lv fa la) H := hP
          have hD : va_D A (WX h g ca (u2 iv 8 5 v22) lv fa la) := hD
          refine lv_goto (tgt := 0) hx hb dX8_skipBlanks_35 (by decide) ?_
          exact ih16 v22 ⟨by omega, by omega⟩ (show (iv 8 5).toInt ≤ (v22 : Int32).toInt from by omega) (show ∀ j : Nat, (iv 8 5).toInt ≤ (j : Int) → (j : Int) < (v22 : Int32).toInt → (j : Int) < ((iv 8 2) : Int32).toInt ∧ ((fa 8 1) j).toInt = 32 from (fun j h1 h2 => by
                by_cases hj : (j : Int) < (w15_i_8_5 : Int32).toInt
                · exact hq16_1 j h1 hj
                · have hj2 : j = ((w15_i_8_5 : Int32).toInt).toNat := by omega
                  have hv9 := congrArg Int32.toInt (show v19 = (fa 8 1) ((w15_i_8_5 : Int32).toInt).toNat from ev19)
                  rw [hj2]
                  exact ⟨by omega, by omega⟩)) (by omega) _ _ ls hP hD hS (lv_sub hl [0] rfl)
  have i_8_5 : 0 ≤ (iv 8 5).toInt ∧ (iv 8 5).toInt ≤ 200 := hI.1 8 5
  have i_8_2 : 0 ≤ (iv 8 2).toInt ∧ (iv 8 2).toInt ≤ 200 := hI.1 8 2
  exact lp16 201 (iv 8 5) ⟨by omega, by omega⟩ (show (iv 8 5).toInt ≤ ((iv 8 5) : Int32).toInt from by omega) (show ∀ j : Nat, (iv 8 5).toInt ≤ (j : Int) → (j : Int) < ((iv 8 5) : Int32).toInt → (j : Int) < ((iv 8 2) : Int32).toInt ∧ ((fa 8 1) j).toInt = 32 from fun j h1 h2 => absurd h1 (by omega)) (by first | decide | omega) _ _ ls hP hD hS (lv_sub hl [0] rfl)
set_option maxHeartbeats 4000000 in
set_option maxRecDepth 100000 in
/-- X8_endOfRun -/
theorem c_X8_endOfRun_r97 (l : Launch) (dC : Nat → ClassId) (dI : Nat → Nat → Nat) (h : Nat) (g : Nat → Nat → Nat) (ca : Nat → Nat → ClassId) (iv : Nat → Nat → Int32) (lv : Nat → Nat → Int64) (fa : Nat → Nat → Nat → Int32) (la : Nat → Nat → Nat → Int64) (hI : IX iv fa) : Met l yX8_endOfRun (wc yX8_endOfRun cX8_endOfRun 4 (some .int)) ({ frames := 0, cells := 0, slots := 0, locals := 0 } : Room) (pR (dC, dI) classes (WX h g ca iv lv fa la) (TX ca) [.ref (g 11 4), .int 97, .int 122]) (vp_Si (fun r => (0 ≤ r.toInt ∧ r.toInt ≤ 200) ∧ (Rn (fun j => ((fa 8 1) j).toInt) (iv 8 2).toInt 97 122 (iv 8 5).toInt r.toInt) ∧ ((iv 8 5).toInt ≤ r.toInt))) 0 0 (fun _ => False) := by
  refine Met.ofW (cc := cX8_endOfRun) (maxL := 4) (ret := (some .int)) (by decide) rfl ?_
  intro p e s m args below meth c s₁ B hml hv
  obtain ⟨rfl, hP, hK⟩ := hv
  have hx := B.exec
  have hb := B.bytes
  have hr := B.returns
  have ht := tb_tl (atoms_spec (ws := wc yX8_endOfRun cX8_endOfRun 4 (some .int)) B.pre)
  have hown : s.vm.findClass RX8 = some m.cls := findClass_of_methodNamed B.named
  have hlocks := B.notSynchronized
  have hl := lv_entry [.ref (g 11 4), .int 97, .int 122] (n := 4) (Nat.le_of_ble_eq_true rfl)
  rw [lg_entry_eq]
  generalize (lg_sl [.ref (g 11 4), .int 97, .int 122] ++ List.replicate (4 - (lg_sl [.ref (g 11 4), .int 97, .int 122]).length) Slot.unset).toArray = ls at hl ⊢
  have hl : lv_has ls 4 [(0, .ref (g 11 4)), (1, .int 97), (2, .int 122)] := hl
  refine lv_aload_n hx hb dX8_endOfRun_0 rfl (lv_at hl 0 rfl) ?_
  have i_8_5 : 0 ≤ (iv 8 5).toInt ∧ (iv 8 5).toInt ≤ 200 := hI.1 8 5
  refine gX_8_5 hx hb ht hown hK hP m_235 (v := (iv 8 5)) rfl dX8_endOfRun_1 ?_
  refine lv_istore_n (lv' := [(3, .int (iv 8 5)), (0, .ref (g 11 4)), (1, .int 97), (2, .int 122)]) hx hb dX8_endOfRun_4 rfl hl (by decide) rfl (fun ls hl => ?_)
  have i_8_2 : 0 ≤ (iv 8 2).toInt ∧ (iv 8 2).toInt ≤ 200 := hI.1 8 2
  have lp9 : ∀ (nn9 : Nat) (x8_3 : Int32), 0 ≤ x8_3.toInt ∧ x8_3.toInt ≤ 200 → ((iv 8 5) : Int32).toInt ≤ (x8_3 : Int32).toInt → (∀ j : Nat, ((iv 8 5) : Int32).toInt ≤ (j : Int) → (j : Int) < (x8_3 : Int32).toInt → (j : Int) < ((iv 8 2) : Int32).toInt ∧ 97 ≤ ((fa 8 1) j).toInt ∧ ((fa 8 1) j).toInt ≤ 122) → 200 - x8_3.toInt < (nn9 : Int) → ∀ (ls : Array Slot), lv_has ls 4 [(3, .int x8_3), (0, .ref (g 11 4)), (1, .int 97), (2, .int 122)] → W p l e ({ frames := 0, cells := 0, slots := 0, locals := 0 } : Room) s m ([.ref (g 11 4), .int 97, .int 122] : List Value).toArray below meth c s.heap [] 0 0 (MQ below (vp_Si (fun r => (0 ≤ r.toInt ∧ r.toInt ≤ 200) ∧ (Rn (fun j => ((fa 8 1) j).toInt) (iv 8 2).toInt 97 122 (iv 8 5).toInt r.toInt) ∧ ((iv 8 5).toInt ≤ r.toInt))) ([.ref (g 11 4), .int 97, .int 122] : List Value).toArray s 0 0 (fun _ => False)) (F0 m 5 ls []) := by
    intro nn9
    induction nn9 with
    | zero => intro x8_3 hx8_3 hq9_0 hq9_1 hm9; exfalso; omega
    | succ nn9 ih9 =>
      intro x8_3 hx8_3 hq9_0 hq9_1 hm9 ls hl
      refine lv_iload_n hx hb dX8_endOfRun_5 rfl (lv_at hl 0 rfl) ?_
      refine lv_aload_n hx hb dX8_endOfRun_6 rfl (lv_at hl 1 rfl) ?_
      refine gX_8_2 hx hb ht hown hK hP m_230 (v := (iv 8 2)) rfl dX8_endOfRun_7 ?_
      refine lv_icmp_ge (tgt := 39) hx hb dX8_endOfRun_10 (by decide) (fun c10 => ?_) (fun c10 => ?_)
      · have fc10 := z_le (rfl : ((iv 8 2)).toInt = _) (rfl : (x8_3).toInt = _) c10
        refine lv_iload_n hx hb dX8_endOfRun_39 rfl (lv_at hl 0 rfl) ?_
        exact W.iret (v := x8_3) hx hb hr (fun t ht9 hW => ⟨x8_3, rfl, ⟨⟨by omega, by omega⟩, (show Rn (fun j => ((fa 8 1) j).toInt) ((iv 8 2) : Int32).toInt 97 122 ((iv 8 5) : Int32).toInt (x8_3 : Int32).toInt from ⟨by omega, hq9_1, fun q => by omega⟩), (show ((iv 8 5) : Int32).toInt ≤ (x8_3 : Int32).toInt from by omega)⟩, ht9⟩) (fun q hq => by cases hq) dX8_endOfRun_40
      · have fc10 := z_nle (rfl : ((iv 8 2)).toInt = _) (rfl : (x8_3).toInt = _) c10
        refine lv_aload_n hx hb dX8_endOfRun_13 rfl (lv_at hl 1 rfl) ?_
        refine gX_8_1 hx hb ht hown hK hP m_229 dX8_endOfRun_14 ?_
        refine lv_iload_n hx hb dX8_endOfRun_17 rfl (lv_at hl 0 rfl) ?_
        refine lX_8_1 hx hb hK hP (f := (fa 8 1)) rfl (vp_in_iff.mpr ⟨by omega, by omega⟩) dX8_endOfRun_18 ?_
        refine lv_topi (fun v11 ev11 => ?_)
        refine lv_iload_n hx hb dX8_endOfRun_19 rfl (lv_at hl 2 rfl) ?_
        refine lv_icmp_lt (tgt := 39) hx hb dX8_endOfRun_20 (by decide) (fun c12 => ?_) (fun c12 => ?_)
        · have fc12 := z_lt (rfl : (v11).toInt = _) (by decide : (97 : Int32).toInt = 97) c12
          refine lv_iload_n hx hb dX8_endOfRun_39 rfl (lv_at hl 0 rfl) ?_
          exact W.iret (v := x8_3) hx hb hr (fun t ht9 hW => ⟨x8_3, rfl, ⟨⟨by omega, by omega⟩, (show Rn (fun j => ((fa 8 1) j).toInt) ((iv 8 2) : Int32).toInt 97 122 ((iv 8 5) : Int32).toInt (x8_3 : Int32).toInt from ⟨by omega, hq9_1, fun q => by have q2 : 97 ≤ (fa 8 1 ((x8_3 : Int32).toInt).toNat).toInt ∧ (fa 8 1 ((x8_3 : Int32).toInt).toNat).toInt ≤ 122 := q.2; have hv9 := congrArg Int32.toInt (show v11 = (fa 8 1) ((x8_3 : Int32).toInt).toNat from ev11); omega⟩), (show ((iv 8 5) : Int32).toInt ≤ (x8_3 : Int32).toInt from by omega)⟩, ht9⟩) (fun q hq => by cases hq) dX8_endOfRun_40
        · have fc12 := z_nlt (rfl : (v11).toInt = _) (by decide : (97 : Int32).toInt = 97) c12
          refine lv_aload_n hx hb dX8_endOfRun_23 rfl (lv_at hl 1 rfl) ?_
          refine gX_8_1 hx hb ht hown hK hP m_229 dX8_endOfRun_24 ?_
          refine lv_iload_n hx hb dX8_endOfRun_27 rfl (lv_at hl 0 rfl) ?_
          refine lX_8_1 hx hb hK hP (f := (fa 8 1)) rfl (vp_in_iff.mpr ⟨by omega, by omega⟩) dX8_endOfRun_28 ?_
          refine lv_topi (fun v13 ev13 => ?_)
          obtain rfl : v11 = v13 := ev11.trans ev13.symm
          refine lv_iload_n hx hb dX8_endOfRun_29 rfl (lv_at hl 3 rfl) ?_
          refine lv_icmp_gt (tgt := 39) hx hb dX8_endOfRun_30 (by decide) (fun c14 => ?_) (fun c14 => ?_)
          · have fc14 := z_lt (by decide : (122 : Int32).toInt = 122) (rfl : (v11).toInt = _) c14
            refine lv_iload_n hx hb dX8_endOfRun_39 rfl (lv_at hl 0 rfl) ?_
            exact W.iret (v := x8_3) hx hb hr (fun t ht9 hW => ⟨x8_3, rfl, ⟨⟨by omega, by omega⟩, (show Rn (fun j => ((fa 8 1) j).toInt) ((iv 8 2) : Int32).toInt 97 122 ((iv 8 5) : Int32).toInt (x8_3 : Int32).toInt from ⟨by omega, hq9_1, fun q => by have q2 : 97 ≤ (fa 8 1 ((x8_3 : Int32).toInt).toNat).toInt ∧ (fa 8 1 ((x8_3 : Int32).toInt).toNat).toInt ≤ 122 := q.2; have hv9 := congrArg Int32.toInt (show v11 = (fa 8 1) ((x8_3 : Int32).toInt).toNat from ev11); omega⟩), (show ((iv 8 5) : Int32).toInt ≤ (x8_3 : Int32).toInt from by omega)⟩, ht9⟩) (fun q hq => by cases hq) dX8_endOfRun_40
          · have fc14 := z_nlt (by decide : (122 : Int32).toInt = 122) (rfl : (v11).toInt = _) c14
            obtain ⟨v15, ev15⟩ : ∃ y : Int32, y = x8_3 + 1 := ⟨_, rfl⟩
            have tv15 := z_add ev15 rfl (by decide : (1 : Int32).toInt = 1) (by omega) (by omega)
            refine lv_iinc (v := v15) (lv' := [(3, .int v15), (0, .ref (g 11 4)), (1, .int 97), (2, .int 122)]) hx hb dX8_endOfRun_33 hl (k := 0) rfl (by rw [ev15]; rfl) (by decide) rfl (fun ls hl => ?_)
            refine lv_goto (tgt := 5) hx hb dX8_endOfRun_36 (by decide) ?_
            exact ih9 v15 ⟨by omega, by omega⟩ (show ((iv 8 5) : Int32).toInt ≤ (v15 : Int32).toInt from by omega) (show ∀ j : Nat, ((iv 8 5) : Int32).toInt ≤ (j : Int) → (j : Int) < (v15 : Int32).toInt → (j : Int) < ((iv 8 2) : Int32).toInt ∧ 97 ≤ ((fa 8 1) j).toInt ∧ ((fa 8 1) j).toInt ≤ 122 from (fun j h1 h2 => by
                  by_cases hj : (j : Int) < (x8_3 : Int32).toInt
                  · exact hq9_1 j h1 hj
                  · have hj2 : j = ((x8_3 : Int32).toInt).toNat := by omega
                    have hv9 := congrArg Int32.toInt (show v11 = (fa 8 1) ((x8_3 : Int32).toInt).toNat from ev11)
                    rw [hj2]
                    exact ⟨by omega, by omega, by omega⟩)) (by omega) ls (lv_sub hl [0, 1, 2, 3] rfl)
  have i_8_2 : 0 ≤ (iv 8 2).toInt ∧ (iv 8 2).toInt ≤ 200 := hI.1 8 2
  exact lp9 201 (iv 8 5) ⟨by omega, by omega⟩ (show ((iv 8 5) : Int32).toInt ≤ ((iv 8 5) : Int32).toInt from by omega) (show ∀ j : Nat, ((iv 8 5) : Int32).toInt ≤ (j : Int) → (j : Int) < ((iv 8 5) : Int32).toInt → (j : Int) < ((iv 8 2) : Int32).toInt ∧ 97 ≤ ((fa 8 1) j).toInt ∧ ((fa 8 1) j).toInt ≤ 122 from fun j h1 h2 => absurd h1 (by omega)) (by first | decide | omega) ls (lv_sub hl [0, 1, 2, 3] rfl)
set_option maxHeartbeats 4000000 in
set_option maxRecDepth 100000 in
/-- X8_endOfRun -/
theorem c_X8_endOfRun_r48 (l : Launch) (dC : Nat → ClassId) (dI : Nat → Nat → Nat) (h : Nat) (g : Nat → Nat → Nat) (ca : Nat → Nat → ClassId) (iv : Nat → Nat → Int32) (lv : Nat → Nat → Int64) (fa : Nat → Nat → Nat → Int32) (la : Nat → Nat → Nat → Int64) (hI : IX iv fa) : Met l yX8_endOfRun (wc yX8_endOfRun cX8_endOfRun 4 (some .int)) ({ frames := 0, cells := 0, slots := 0, locals := 0 } : Room) (pR (dC, dI) classes (WX h g ca iv lv fa la) (TX ca) [.ref (g 11 4), .int 48, .int 57]) (vp_Si (fun r => (0 ≤ r.toInt ∧ r.toInt ≤ 200) ∧ (Rn (fun j => ((fa 8 1) j).toInt) (iv 8 2).toInt 48 57 (iv 8 5).toInt r.toInt) ∧ ((iv 8 5).toInt ≤ r.toInt))) 0 0 (fun _ => False) := by
  refine Met.ofW (cc := cX8_endOfRun) (maxL := 4) (ret := (some .int)) (by decide) rfl ?_
  intro p e s m args below meth c s₁ B hml hv
  obtain ⟨rfl, hP, hK⟩ := hv
  have hx := B.exec
  have hb := B.bytes
  have hr := B.returns
  have ht := tb_tl (atoms_spec (ws := wc yX8_endOfRun cX8_endOfRun 4 (some .int)) B.pre)
  have hown : s.vm.findClass RX8 = some m.cls := findClass_of_methodNamed B.named
  have hlocks := B.notSynchronized
  have hl := lv_entry [.ref (g 11 4), .int 48, .int 57] (n := 4) (Nat.le_of_ble_eq_true rfl)
  rw [lg_entry_eq]
  generalize (lg_sl [.ref (g 11 4), .int 48, .int 57] ++ List.replicate (4 - (lg_sl [.ref (g 11 4), .int 48, .int 57]).length) Slot.unset).toArray = ls at hl ⊢
  have hl : lv_has ls 4 [(0, .ref (g 11 4)), (1, .int 48), (2, .int 57)] := hl
  refine lv_aload_n hx hb dX8_endOfRun_0 rfl (lv_at hl 0 rfl) ?_
  have i_8_5 : 0 ≤ (iv 8 5).toInt ∧ (iv 8 5).toInt ≤ 200 := hI.1 8 5
  refine gX_8_5 hx hb ht hown hK hP m_235 (v := (iv 8 5)) rfl dX8_endOfRun_1 ?_
  refine lv_istore_n (lv' := [(3, .int (iv 8 5)), (0, .ref (g 11 4)), (1, .int 48), (2, .int 57)]) hx hb dX8_endOfRun_4 rfl hl (by decide) rfl (fun ls hl => ?_)
  have i_8_2 : 0 ≤ (iv 8 2).toInt ∧ (iv 8 2).toInt ≤ 200 := hI.1 8 2
  have lp9 : ∀ (nn9 : Nat) (x8_3 : Int32), 0 ≤ x8_3.toInt ∧ x8_3.toInt ≤ 200 → ((iv 8 5) : Int32).toInt ≤ (x8_3 : Int32).toInt → (∀ j : Nat, ((iv 8 5) : Int32).toInt ≤ (j : Int) → (j : Int) < (x8_3 : Int32).toInt → (j : Int) < ((iv 8 2) : Int32).toInt ∧ 48 ≤ ((fa 8 1) j).toInt ∧ ((fa 8 1) j).toInt ≤ 57) → 200 - x8_3.toInt < (nn9 : Int) → ∀ (ls : Array Slot), lv_has ls 4 [(3, .int x8_3), (0, .ref (g 11 4)), (1, .int 48), (2, .int 57)] → W p l e ({ frames := 0, cells := 0, slots := 0, locals := 0 } : Room) s m ([.ref (g 11 4), .int 48, .int 57] : List Value).toArray below meth c s.heap [] 0 0 (MQ below (vp_Si (fun r => (0 ≤ r.toInt ∧ r.toInt ≤ 200) ∧ (Rn (fun j => ((fa 8 1) j).toInt) (iv 8 2).toInt 48 57 (iv 8 5).toInt r.toInt) ∧ ((iv 8 5).toInt ≤ r.toInt))) ([.ref (g 11 4), .int 48, .int 57] : List Value).toArray s 0 0 (fun _ => False)) (F0 m 5 ls []) := by
    intro nn9
    induction nn9 with
    | zero => intro x8_3 hx8_3 hq9_0 hq9_1 hm9; exfalso; omega
    | succ nn9 ih9 =>
      intro x8_3 hx8_3 hq9_0 hq9_1 hm9 ls hl
      refine lv_iload_n hx hb dX8_endOfRun_5 rfl (lv_at hl 0 rfl) ?_
      refine lv_aload_n hx hb dX8_endOfRun_6 rfl (lv_at hl 1 rfl) ?_
      refine gX_8_2 hx hb ht hown hK hP m_230 (v := (iv 8 2)) rfl dX8_endOfRun_7 ?_
      refine lv_icmp_ge (tgt := 39) hx hb dX8_endOfRun_10 (by decide) (fun c10 => ?_) (fun c10 => ?_)
      · have fc10 := z_le (rfl : ((iv 8 2)).toInt = _) (rfl : (x8_3).toInt = _) c10
        refine lv_iload_n hx hb dX8_endOfRun_39 rfl (lv_at hl 0 rfl) ?_
        exact W.iret (v := x8_3) hx hb hr (fun t ht9 hW => ⟨x8_3, rfl, ⟨⟨by omega, by omega⟩, (show Rn (fun j => ((fa 8 1) j).toInt) ((iv 8 2) : Int32).toInt 48 57 ((iv 8 5) : Int32).toInt (x8_3 : Int32).toInt from ⟨by omega, hq9_1, fun q => by omega⟩), (show ((iv 8 5) : Int32).toInt ≤ (x8_3 : Int32).toInt from by omega)⟩, ht9⟩) (fun q hq => by cases hq) dX8_endOfRun_40
      · have fc10 := z_nle (rfl : ((iv 8 2)).toInt = _) (rfl : (x8_3).toInt = _) c10
        refine lv_aload_n hx hb dX8_endOfRun_13 rfl (lv_at hl 1 rfl) ?_
        refine gX_8_1 hx hb ht hown hK hP m_229 dX8_endOfRun_14 ?_
        refine lv_iload_n hx hb dX8_endOfRun_17 rfl (lv_at hl 0 rfl) ?_
        refine lX_8_1 hx hb hK hP (f := (fa 8 1)) rfl (vp_in_iff.mpr ⟨by omega, by omega⟩) dX8_endOfRun_18 ?_
        refine lv_topi (fun v11 ev11 => ?_)
        refine lv_iload_n hx hb dX8_endOfRun_19 rfl (lv_at hl 2 rfl) ?_
        refine lv_icmp_lt (tgt := 39) hx hb dX8_endOfRun_20 (by decide) (fun c12 => ?_) (fun c12 => ?_)
        · have fc12 := z_lt (rfl : (v11).toInt = _) (by decide : (48 : Int32).toInt = 48) c12
          refine lv_iload_n hx hb dX8_endOfRun_39 rfl (lv_at hl 0 rfl) ?_
          exact W.iret (v := x8_3) hx hb hr (fun t ht9 hW => ⟨x8_3, rfl, ⟨⟨by omega, by omega⟩, (show Rn (fun j => ((fa 8 1) j).toInt) ((iv 8 2) : Int32).toInt 48 57 ((iv 8 5) : Int32).toInt (x8_3 : Int32).toInt from ⟨by omega, hq9_1, fun q => by have q2 : 48 ≤ (fa 8 1 ((x8_3 : Int32).toInt).toNat).toInt ∧ (fa 8 1 ((x8_3 : Int32).toInt).toNat).toInt ≤ 57 := q.2; have hv9 := congrArg Int32.toInt (show v11 = (fa 8 1) ((x8_3 : Int32).toInt).toNat from ev11); omega⟩), (show ((iv 8 5) : Int32).toInt ≤ (x8_3 : Int32).toInt from by omega)⟩, ht9⟩) (fun q hq => by cases hq) dX8_endOfRun_40
        · have fc12 := z_nlt (rfl : (v11).toInt = _) (by decide : (48 : Int32).toInt = 48) c12
          refine lv_aload_n hx hb dX8_endOfRun_23 rfl (lv_at hl 1 rfl) ?_
          refine gX_8_1 hx hb ht hown hK hP m_229 dX8_endOfRun_24 ?_
          refine lv_iload_n hx hb dX8_endOfRun_27 rfl (lv_at hl 0 rfl) ?_
          refine lX_8_1 hx hb hK hP (f := (fa 8 1)) rfl (vp_in_iff.mpr ⟨by omega, by omega⟩) dX8_endOfRun_28 ?_
          refine lv_topi (fun v13 ev13 => ?_)
          obtain rfl : v11 = v13 := ev11.trans ev13.symm
          refine lv_iload_n hx hb dX8_endOfRun_29 rfl (lv_at hl 3 rfl) ?_
          refine lv_icmp_gt (tgt := 39) hx hb dX8_endOfRun_30 (by decide) (fun c14 => ?_) (fun c14 => ?_)
          · have fc14 := z_lt (by decide : (57 : Int32).toInt = 57) (rfl : (v11).toInt = _) c14
            refine lv_iload_n hx hb dX8_endOfRun_39 rfl (lv_at hl 0 rfl) ?_
            exact W.iret (v := x8_3) hx hb hr (fun t ht9 hW => ⟨x8_3, rfl, ⟨⟨by omega, by omega⟩, (show Rn (fun j => ((fa 8 1) j).toInt) ((iv 8 2) : Int32).toInt 48 57 ((iv 8 5) : Int32).toInt (x8_3 : Int32).toInt from ⟨by omega, hq9_1, fun q => by have q2 : 48 ≤ (fa 8 1 ((x8_3 : Int32).toInt).toNat).toInt ∧ (fa 8 1 ((x8_3 : Int32).toInt).toNat).toInt ≤ 57 := q.2; have hv9 := congrArg Int32.toInt (show v11 = (fa 8 1) ((x8_3 : Int32).toInt).toNat from ev11); omega⟩), (show ((iv 8 5) : Int32).toInt ≤ (x8_3 : Int32).toInt from by omega)⟩, ht9⟩) (fun q hq => by cases hq) dX8_endOfRun_40
          · have fc14 := z_nlt (by decide : (57 : Int32).toInt = 57) (rfl : (v11).toInt = _) c14
            obtain ⟨v15, ev15⟩ : ∃ y : Int32, y = x8_3 + 1 := ⟨_, rfl⟩
            have tv15 := z_add ev15 rfl (by decide : (1 : Int32).toInt = 1) (by omega) (by omega)
            refine lv_iinc (v := v15) (lv' := [(3, .int v15), (0, .ref (g 11 4)), (1, .int 48), (2, .int 57)]) hx hb dX8_endOfRun_33 hl (k := 0) rfl (by rw [ev15]; rfl) (by decide) rfl (fun ls hl => ?_)
            refine lv_goto (tgt := 5) hx hb dX8_endOfRun_36 (by decide) ?_
            exact ih9 v15 ⟨by omega, by omega⟩ (show ((iv 8 5) : Int32).toInt ≤ (v15 : Int32).toInt from by omega) (show ∀ j : Nat, ((iv 8 5) : Int32).toInt ≤ (j : Int) → (j : Int) < (v15 : Int32).toInt → (j : Int) < ((iv 8 2) : Int32).toInt ∧ 48 ≤ ((fa 8 1) j).toInt ∧ ((fa 8 1) j).toInt ≤ 57 from (fun j h1 h2 => by
                  by_cases hj : (j : Int) < (x8_3 : Int32).toInt
                  · exact hq9_1 j h1 hj
                  · have hj2 : j = ((x8_3 : Int32).toInt).toNat := by omega
                    have hv9 := congrArg Int32.toInt (show v11 = (fa 8 1) ((x8_3 : Int32).toInt).toNat from ev11)
                    rw [hj2]
                    exact ⟨by omega, by omega, by omega⟩)) (by omega) ls (lv_sub hl [0, 1, 2, 3] rfl)
  have i_8_2 : 0 ≤ (iv 8 2).toInt ∧ (iv 8 2).toInt ≤ 200 := hI.1 8 2
  exact lp9 201 (iv 8 5) ⟨by omega, by omega⟩ (show ((iv 8 5) : Int32).toInt ≤ ((iv 8 5) : Int32).toInt from by omega) (show ∀ j : Nat, ((iv 8 5) : Int32).toInt ≤ (j : Int) → (j : Int) < ((iv 8 5) : Int32).toInt → (j : Int) < ((iv 8 2) : Int32).toInt ∧ 48 ≤ ((fa 8 1) j).toInt ∧ ((fa 8 1) j).toInt ≤ 57 from fun j h1 h2 => absurd h1 (by omega)) (by first | decide | omega) ls (lv_sub hl [0, 1, 2, 3] rfl)
set_option maxHeartbeats 4000000 in
set_option maxRecDepth 100000 in
/-- X8_fail -/
theorem c_X8_fail_r (l : Launch) (dC : Nat → ClassId) (dI : Nat → Nat → Nat) (sz : Nat) (h : Nat) (g : Nat → Nat → Nat) (ca : Nat → Nat → ClassId) (iv : Nat → Nat → Int32) (lv : Nat → Nat → Int64) (fa : Nat → Nat → Nat → Int32) (la : Nat → Nat → Nat → Int64) (hI : IX iv fa) (a : Int32) (b : Int32) (h_a : 0 ≤ a.toInt ∧ a.toInt ≤ 5) (h_b : (-1) ≤ b.toInt ∧ b.toInt ≤ 200) : Met l yX8_fail (wc yX8_fail cX8_fail 3 (some .boolean)) ({ frames := 0, cells := 0, slots := 0, locals := 0 } : Room) (pW (dC, dI) classes (WX h g ca iv lv fa la) (TX ca) sz [.ref (g 11 4), .int a, .int b]) (va_Qi (fun r (u : SS) => ∃ (ni_8_3 : Int32) (ni_8_4 : Int32), inb (bI 8 3) ni_8_3 ∧ inb (bI 8 4) ni_8_4 ∧ ((ni_8_4).toInt = a.toInt) ∧ ((ni_8_3).toInt = b.toInt) ∧ (0 ≤ r.toInt ∧ r.toInt ≤ 0) ∧ u = ((u2 (u2 iv 8 3 ni_8_3) 8 4 ni_8_4), lv, fa, la)) (bX (dC, dI) h g ca (va_A (WX h g ca iv lv fa la) sz)) (va_A (WX h g ca iv lv fa la) sz)) 0 0 (va_A (WX h g ca iv lv fa la) sz) := by
  refine Met.ofW (cc := cX8_fail) (maxL := 3) (ret := (some .boolean)) (by decide) rfl ?_
  intro p e s m args below meth c s₁ B hml hv
  obtain ⟨rfl, hsz, hP, hK, hD0⟩ := hv
  have hx := B.exec
  have hb := B.bytes
  have hr := B.returns
  have ht := tb_tl (atoms_spec (ws := wc yX8_fail cX8_fail 3 (some .boolean)) B.pre)
  have hown : s.vm.findClass RX8 = some m.cls := findClass_of_methodNamed B.named
  have hlocks := B.notSynchronized
  subst hsz
  have hD := hD0.self (sz := s.heap.size)
  generalize hAe : va_A (WX h g ca iv lv fa la) s.heap.size = A at hD ⊢
  have hA : ∀ q : Nat, s.heap.size ≤ q → A q := fun q h => by rw [← hAe]; exact Or.inr h
  have hS : va_S A s.heap s.heap [] := va_S.rf
  have hl := lv_entry [.ref (g 11 4), .int a, .int b] (n := 3) (Nat.le_of_ble_eq_true rfl)
  rw [lg_entry_eq]
  generalize (lg_sl [.ref (g 11 4), .int a, .int b] ++ List.replicate (3 - (lg_sl [.ref (g 11 4), .int a, .int b]).length) Slot.unset).toArray = ls at hl ⊢
  have hl : lv_has ls 3 [(0, .ref (g 11 4)), (1, .int a), (2, .int b)] := hl
  refine lv_aload_n hx hb dX8_fail_0 rfl (lv_at hl 0 rfl) ?_
  refine lv_iload_n hx hb dX8_fail_1 rfl (lv_at hl 1 rfl) ?_
  refine pX_8_4 (v := a) hx hb ht hown hK hP hD hS m_234 dX8_fail_2 (fun H locs hP hD hS => ?_)
  refine lv_aload_n hx hb dX8_fail_5 rfl (lv_at hl 0 rfl) ?_
  refine lv_iload_n hx hb dX8_fail_6 rfl (lv_at hl 2 rfl) ?_
  refine pX_8_3 (v := b) hx hb ht hown hK hP hD hS m_232 dX8_fail_7 (fun H locs hP hD hS => ?_)
  refine lv_iconst (v := 0) hx hb dX8_fail_10 (by decide) ?_
  have hP9 : va_P (dC, dI) classes (WX h g ca (u2 (u2 iv 8 3 b) 8 4 a) lv fa la) H := hP
  have hD9 : va_D A (WX h g ca (u2 (u2 iv 8 3 b) 8 4 a) lv fa la) := hD
  exact W.zret (v := 0) hx hb hr rfl (fun t ht9 hW => ⟨⟨0, ((u2 (u2 iv 8 3 b) 8 4 a), lv, fa, la), rfl, ⟨b, a, (show inb ((-1), 200) b from ⟨by omega, by omega⟩), (show inb (0, 5) a from ⟨by omega, by omega⟩), (show (a : Int32).toInt = (a).toInt from by omega), (show (b : Int32).toInt = (b).toInt from by omega), ⟨by decide, by decide⟩, rfl⟩, by rw [ht9]; exact hP9, hD9⟩, hS.F ht9⟩) hS.2.2 dX8_fail_11
def WdG (t : Nat → Int) (s e m : Int) (L : Nat → Int) : Prop := e - s = m ∧ ∀ j : Nat, (j : Int) < m → t (s.toNat + j) = L j
/-- the signs of a string of words, from a on -/
def LsW (J : Nat) (a : Int) (j : Nat) : Int := ((S_byt.getD J []).getD (a.toNat + j) 0).toInt
theorem cs_0_0 {t : Nat → Int} {s e R : Int} (h : (R = 1 ∧ WdG t s e ((3 : Int32).toInt - (0 : Int32).toInt) (LsW 0 (0 : Int32).toInt)) ∨ (R = 0 ∧ ¬ WdG t s e ((3 : Int32).toInt - (0 : Int32).toInt) (LsW 0 (0 : Int32).toInt))) : (R = 1 ∧ w_let t s e) ∨ (R = 0 ∧ ¬ w_let t s e) := by
  have hm : (3 : Int32).toInt - (0 : Int32).toInt = 3 := (by decide)
  have c : WdG t s e ((3 : Int32).toInt - (0 : Int32).toInt) (LsW 0 (0 : Int32).toInt) ↔ w_let t s e := by
    constructor
    · intro h
      exact ⟨h.1.trans hm, (h.2 0 (by omega)).trans (show LsW 0 (0 : Int32).toInt 0 = 108 from by decide +kernel), (h.2 1 (by omega)).trans (show LsW 0 (0 : Int32).toInt 1 = 101 from by decide +kernel), (h.2 2 (by omega)).trans (show LsW 0 (0 : Int32).toInt 2 = 116 from by decide +kernel)⟩
    · intro h
      obtain ⟨h0, q0, q1, q2⟩ := h
      refine ⟨h0.trans hm.symm, fun j hj => ?_⟩
      rcases (by omega : j = 0 ∨ j = 1 ∨ j = 2) with rfl | rfl | rfl
      · exact q0.trans (show (108 : Int) = LsW 0 (0 : Int32).toInt 0 from by decide +kernel)
      · exact q1.trans (show (101 : Int) = LsW 0 (0 : Int32).toInt 1 from by decide +kernel)
      · exact q2.trans (show (116 : Int) = LsW 0 (0 : Int32).toInt 2 from by decide +kernel)
  rw [c] at h; exact h
theorem cs_0_4 {t : Nat → Int} {s e R : Int} (h : (R = 1 ∧ WdG t s e ((8 : Int32).toInt - (4 : Int32).toInt) (LsW 0 (4 : Int32).toInt)) ∨ (R = 0 ∧ ¬ WdG t s e ((8 : Int32).toInt - (4 : Int32).toInt) (LsW 0 (4 : Int32).toInt))) : (R = 1 ∧ w_take t s e) ∨ (R = 0 ∧ ¬ w_take t s e) := by
  have hm : (8 : Int32).toInt - (4 : Int32).toInt = 4 := (by decide)
  have c : WdG t s e ((8 : Int32).toInt - (4 : Int32).toInt) (LsW 0 (4 : Int32).toInt) ↔ w_take t s e := by
    constructor
    · intro h
      exact ⟨h.1.trans hm, (h.2 0 (by omega)).trans (show LsW 0 (4 : Int32).toInt 0 = 116 from by decide +kernel), (h.2 1 (by omega)).trans (show LsW 0 (4 : Int32).toInt 1 = 97 from by decide +kernel), (h.2 2 (by omega)).trans (show LsW 0 (4 : Int32).toInt 2 = 107 from by decide +kernel), (h.2 3 (by omega)).trans (show LsW 0 (4 : Int32).toInt 3 = 101 from by decide +kernel)⟩
    · intro h
      obtain ⟨h0, q0, q1, q2, q3⟩ := h
      refine ⟨h0.trans hm.symm, fun j hj => ?_⟩
      rcases (by omega : j = 0 ∨ j = 1 ∨ j = 2 ∨ j = 3) with rfl | rfl | rfl | rfl
      · exact q0.trans (show (116 : Int) = LsW 0 (4 : Int32).toInt 0 from by decide +kernel)
      · exact q1.trans (show (97 : Int) = LsW 0 (4 : Int32).toInt 1 from by decide +kernel)
      · exact q2.trans (show (107 : Int) = LsW 0 (4 : Int32).toInt 2 from by decide +kernel)
      · exact q3.trans (show (101 : Int) = LsW 0 (4 : Int32).toInt 3 from by decide +kernel)
  rw [c] at h; exact h
theorem cs_0_9 {t : Nat → Int} {s e R : Int} (h : (R = 1 ∧ WdG t s e ((13 : Int32).toInt - (9 : Int32).toInt) (LsW 0 (9 : Int32).toInt)) ∨ (R = 0 ∧ ¬ WdG t s e ((13 : Int32).toInt - (9 : Int32).toInt) (LsW 0 (9 : Int32).toInt))) : (R = 1 ∧ w_name t s e) ∨ (R = 0 ∧ ¬ w_name t s e) := by
  have hm : (13 : Int32).toInt - (9 : Int32).toInt = 4 := (by decide)
  have c : WdG t s e ((13 : Int32).toInt - (9 : Int32).toInt) (LsW 0 (9 : Int32).toInt) ↔ w_name t s e := by
    constructor
    · intro h
      exact ⟨h.1.trans hm, (h.2 0 (by omega)).trans (show LsW 0 (9 : Int32).toInt 0 = 110 from by decide +kernel), (h.2 1 (by omega)).trans (show LsW 0 (9 : Int32).toInt 1 = 97 from by decide +kernel), (h.2 2 (by omega)).trans (show LsW 0 (9 : Int32).toInt 2 = 109 from by decide +kernel), (h.2 3 (by omega)).trans (show LsW 0 (9 : Int32).toInt 3 = 101 from by decide +kernel)⟩
    · intro h
      obtain ⟨h0, q0, q1, q2, q3⟩ := h
      refine ⟨h0.trans hm.symm, fun j hj => ?_⟩
      rcases (by omega : j = 0 ∨ j = 1 ∨ j = 2 ∨ j = 3) with rfl | rfl | rfl | rfl
      · exact q0.trans (show (110 : Int) = LsW 0 (9 : Int32).toInt 0 from by decide +kernel)
      · exact q1.trans (show (97 : Int) = LsW 0 (9 : Int32).toInt 1 from by decide +kernel)
      · exact q2.trans (show (109 : Int) = LsW 0 (9 : Int32).toInt 2 from by decide +kernel)
      · exact q3.trans (show (101 : Int) = LsW 0 (9 : Int32).toInt 3 from by decide +kernel)
  rw [c] at h; exact h
theorem cs_0_14 {t : Nat → Int} {s e R : Int} (h : (R = 1 ∧ WdG t s e ((20 : Int32).toInt - (14 : Int32).toInt) (LsW 0 (14 : Int32).toInt)) ∨ (R = 0 ∧ ¬ WdG t s e ((20 : Int32).toInt - (14 : Int32).toInt) (LsW 0 (14 : Int32).toInt))) : (R = 1 ∧ w_strike t s e) ∨ (R = 0 ∧ ¬ w_strike t s e) := by
  have hm : (20 : Int32).toInt - (14 : Int32).toInt = 6 := (by decide)
  have c : WdG t s e ((20 : Int32).toInt - (14 : Int32).toInt) (LsW 0 (14 : Int32).toInt) ↔ w_strike t s e := by
    constructor
    · intro h
      exact ⟨h.1.trans hm, (h.2 0 (by omega)).trans (show LsW 0 (14 : Int32).toInt 0 = 115 from by decide +kernel), (h.2 1 (by omega)).trans (show LsW 0 (14 : Int32).toInt 1 = 116 from by decide +kernel), (h.2 2 (by omega)).trans (show LsW 0 (14 : Int32).toInt 2 = 114 from by decide +kernel), (h.2 3 (by omega)).trans (show LsW 0 (14 : Int32).toInt 3 = 105 from by decide +kernel), (h.2 4 (by omega)).trans (show LsW 0 (14 : Int32).toInt 4 = 107 from by decide +kernel), (h.2 5 (by omega)).trans (show LsW 0 (14 : Int32).toInt 5 = 101 from by decide +kernel)⟩
    · intro h
      obtain ⟨h0, q0, q1, q2, q3, q4, q5⟩ := h
      refine ⟨h0.trans hm.symm, fun j hj => ?_⟩
      rcases (by omega : j = 0 ∨ j = 1 ∨ j = 2 ∨ j = 3 ∨ j = 4 ∨ j = 5) with rfl | rfl | rfl | rfl | rfl | rfl
      · exact q0.trans (show (115 : Int) = LsW 0 (14 : Int32).toInt 0 from by decide +kernel)
      · exact q1.trans (show (116 : Int) = LsW 0 (14 : Int32).toInt 1 from by decide +kernel)
      · exact q2.trans (show (114 : Int) = LsW 0 (14 : Int32).toInt 2 from by decide +kernel)
      · exact q3.trans (show (105 : Int) = LsW 0 (14 : Int32).toInt 3 from by decide +kernel)
      · exact q4.trans (show (107 : Int) = LsW 0 (14 : Int32).toInt 4 from by decide +kernel)
      · exact q5.trans (show (101 : Int) = LsW 0 (14 : Int32).toInt 5 from by decide +kernel)
  rw [c] at h; exact h
theorem cs_1_0 {t : Nat → Int} {s e R : Int} (h : (R = 1 ∧ WdG t s e ((5 : Int32).toInt - (0 : Int32).toInt) (LsW 1 (0 : Int32).toInt)) ∨ (R = 0 ∧ ¬ WdG t s e ((5 : Int32).toInt - (0 : Int32).toInt) (LsW 1 (0 : Int32).toInt))) : (R = 1 ∧ w_water t s e) ∨ (R = 0 ∧ ¬ w_water t s e) := by
  have hm : (5 : Int32).toInt - (0 : Int32).toInt = 5 := (by decide)
  have c : WdG t s e ((5 : Int32).toInt - (0 : Int32).toInt) (LsW 1 (0 : Int32).toInt) ↔ w_water t s e := by
    constructor
    · intro h
      exact ⟨h.1.trans hm, (h.2 0 (by omega)).trans (show LsW 1 (0 : Int32).toInt 0 = 119 from by decide +kernel), (h.2 1 (by omega)).trans (show LsW 1 (0 : Int32).toInt 1 = 97 from by decide +kernel), (h.2 2 (by omega)).trans (show LsW 1 (0 : Int32).toInt 2 = 116 from by decide +kernel), (h.2 3 (by omega)).trans (show LsW 1 (0 : Int32).toInt 3 = 101 from by decide +kernel), (h.2 4 (by omega)).trans (show LsW 1 (0 : Int32).toInt 4 = 114 from by decide +kernel)⟩
    · intro h
      obtain ⟨h0, q0, q1, q2, q3, q4⟩ := h
      refine ⟨h0.trans hm.symm, fun j hj => ?_⟩
      rcases (by omega : j = 0 ∨ j = 1 ∨ j = 2 ∨ j = 3 ∨ j = 4) with rfl | rfl | rfl | rfl | rfl
      · exact q0.trans (show (119 : Int) = LsW 1 (0 : Int32).toInt 0 from by decide +kernel)
      · exact q1.trans (show (97 : Int) = LsW 1 (0 : Int32).toInt 1 from by decide +kernel)
      · exact q2.trans (show (116 : Int) = LsW 1 (0 : Int32).toInt 2 from by decide +kernel)
      · exact q3.trans (show (101 : Int) = LsW 1 (0 : Int32).toInt 3 from by decide +kernel)
      · exact q4.trans (show (114 : Int) = LsW 1 (0 : Int32).toInt 4 from by decide +kernel)
  rw [c] at h; exact h
theorem cs_1_6 {t : Nat → Int} {s e R : Int} (h : (R = 1 ∧ WdG t s e ((12 : Int32).toInt - (6 : Int32).toInt) (LsW 1 (6 : Int32).toInt)) ∨ (R = 0 ∧ ¬ WdG t s e ((12 : Int32).toInt - (6 : Int32).toInt) (LsW 1 (6 : Int32).toInt))) : (R = 1 ∧ w_skeins t s e) ∨ (R = 0 ∧ ¬ w_skeins t s e) := by
  have hm : (12 : Int32).toInt - (6 : Int32).toInt = 6 := (by decide)
  have c : WdG t s e ((12 : Int32).toInt - (6 : Int32).toInt) (LsW 1 (6 : Int32).toInt) ↔ w_skeins t s e := by
    constructor
    · intro h
      exact ⟨h.1.trans hm, (h.2 0 (by omega)).trans (show LsW 1 (6 : Int32).toInt 0 = 115 from by decide +kernel), (h.2 1 (by omega)).trans (show LsW 1 (6 : Int32).toInt 1 = 107 from by decide +kernel), (h.2 2 (by omega)).trans (show LsW 1 (6 : Int32).toInt 2 = 101 from by decide +kernel), (h.2 3 (by omega)).trans (show LsW 1 (6 : Int32).toInt 3 = 105 from by decide +kernel), (h.2 4 (by omega)).trans (show LsW 1 (6 : Int32).toInt 4 = 110 from by decide +kernel), (h.2 5 (by omega)).trans (show LsW 1 (6 : Int32).toInt 5 = 115 from by decide +kernel)⟩
    · intro h
      obtain ⟨h0, q0, q1, q2, q3, q4, q5⟩ := h
      refine ⟨h0.trans hm.symm, fun j hj => ?_⟩
      rcases (by omega : j = 0 ∨ j = 1 ∨ j = 2 ∨ j = 3 ∨ j = 4 ∨ j = 5) with rfl | rfl | rfl | rfl | rfl | rfl
      · exact q0.trans (show (115 : Int) = LsW 1 (6 : Int32).toInt 0 from by decide +kernel)
      · exact q1.trans (show (107 : Int) = LsW 1 (6 : Int32).toInt 1 from by decide +kernel)
      · exact q2.trans (show (101 : Int) = LsW 1 (6 : Int32).toInt 2 from by decide +kernel)
      · exact q3.trans (show (105 : Int) = LsW 1 (6 : Int32).toInt 3 from by decide +kernel)
      · exact q4.trans (show (110 : Int) = LsW 1 (6 : Int32).toInt 4 from by decide +kernel)
      · exact q5.trans (show (115 : Int) = LsW 1 (6 : Int32).toInt 5 from by decide +kernel)
  rw [c] at h; exact h
theorem cs_1_13 {t : Nat → Int} {s e R : Int} (h : (R = 1 ∧ WdG t s e ((17 : Int32).toInt - (13 : Int32).toInt) (LsW 1 (13 : Int32).toInt)) ∨ (R = 0 ∧ ¬ WdG t s e ((17 : Int32).toInt - (13 : Int32).toInt) (LsW 1 (13 : Int32).toInt))) : (R = 1 ∧ w_part t s e) ∨ (R = 0 ∧ ¬ w_part t s e) := by
  have hm : (17 : Int32).toInt - (13 : Int32).toInt = 4 := (by decide)
  have c : WdG t s e ((17 : Int32).toInt - (13 : Int32).toInt) (LsW 1 (13 : Int32).toInt) ↔ w_part t s e := by
    constructor
    · intro h
      exact ⟨h.1.trans hm, (h.2 0 (by omega)).trans (show LsW 1 (13 : Int32).toInt 0 = 112 from by decide +kernel), (h.2 1 (by omega)).trans (show LsW 1 (13 : Int32).toInt 1 = 97 from by decide +kernel), (h.2 2 (by omega)).trans (show LsW 1 (13 : Int32).toInt 2 = 114 from by decide +kernel), (h.2 3 (by omega)).trans (show LsW 1 (13 : Int32).toInt 3 = 116 from by decide +kernel)⟩
    · intro h
      obtain ⟨h0, q0, q1, q2, q3⟩ := h
      refine ⟨h0.trans hm.symm, fun j hj => ?_⟩
      rcases (by omega : j = 0 ∨ j = 1 ∨ j = 2 ∨ j = 3) with rfl | rfl | rfl | rfl
      · exact q0.trans (show (112 : Int) = LsW 1 (13 : Int32).toInt 0 from by decide +kernel)
      · exact q1.trans (show (97 : Int) = LsW 1 (13 : Int32).toInt 1 from by decide +kernel)
      · exact q2.trans (show (114 : Int) = LsW 1 (13 : Int32).toInt 2 from by decide +kernel)
      · exact q3.trans (show (116 : Int) = LsW 1 (13 : Int32).toInt 3 from by decide +kernel)
  rw [c] at h; exact h
theorem cs_1_18 {t : Nat → Int} {s e R : Int} (h : (R = 1 ∧ WdG t s e ((23 : Int32).toInt - (18 : Int32).toInt) (LsW 1 (18 : Int32).toInt)) ∨ (R = 0 ∧ ¬ WdG t s e ((23 : Int32).toInt - (18 : Int32).toInt) (LsW 1 (18 : Int32).toInt))) : (R = 1 ∧ w_looks t s e) ∨ (R = 0 ∧ ¬ w_looks t s e) := by
  have hm : (23 : Int32).toInt - (18 : Int32).toInt = 5 := (by decide)
  have c : WdG t s e ((23 : Int32).toInt - (18 : Int32).toInt) (LsW 1 (18 : Int32).toInt) ↔ w_looks t s e := by
    constructor
    · intro h
      exact ⟨h.1.trans hm, (h.2 0 (by omega)).trans (show LsW 1 (18 : Int32).toInt 0 = 108 from by decide +kernel), (h.2 1 (by omega)).trans (show LsW 1 (18 : Int32).toInt 1 = 111 from by decide +kernel), (h.2 2 (by omega)).trans (show LsW 1 (18 : Int32).toInt 2 = 111 from by decide +kernel), (h.2 3 (by omega)).trans (show LsW 1 (18 : Int32).toInt 3 = 107 from by decide +kernel), (h.2 4 (by omega)).trans (show LsW 1 (18 : Int32).toInt 4 = 115 from by decide +kernel)⟩
    · intro h
      obtain ⟨h0, q0, q1, q2, q3, q4⟩ := h
      refine ⟨h0.trans hm.symm, fun j hj => ?_⟩
      rcases (by omega : j = 0 ∨ j = 1 ∨ j = 2 ∨ j = 3 ∨ j = 4) with rfl | rfl | rfl | rfl | rfl
      · exact q0.trans (show (108 : Int) = LsW 1 (18 : Int32).toInt 0 from by decide +kernel)
      · exact q1.trans (show (111 : Int) = LsW 1 (18 : Int32).toInt 1 from by decide +kernel)
      · exact q2.trans (show (111 : Int) = LsW 1 (18 : Int32).toInt 2 from by decide +kernel)
      · exact q3.trans (show (107 : Int) = LsW 1 (18 : Int32).toInt 3 from by decide +kernel)
      · exact q4.trans (show (115 : Int) = LsW 1 (18 : Int32).toInt 4 from by decide +kernel)
  rw [c] at h; exact h
theorem cs_1_24 {t : Nat → Int} {s e R : Int} (h : (R = 1 ∧ WdG t s e ((27 : Int32).toInt - (24 : Int32).toInt) (LsW 1 (24 : Int32).toInt)) ∨ (R = 0 ∧ ¬ WdG t s e ((27 : Int32).toInt - (24 : Int32).toInt) (LsW 1 (24 : Int32).toInt))) : (R = 1 ∧ w_fee t s e) ∨ (R = 0 ∧ ¬ w_fee t s e) := by
  have hm : (27 : Int32).toInt - (24 : Int32).toInt = 3 := (by decide)
  have c : WdG t s e ((27 : Int32).toInt - (24 : Int32).toInt) (LsW 1 (24 : Int32).toInt) ↔ w_fee t s e := by
    constructor
    · intro h
      exact ⟨h.1.trans hm, (h.2 0 (by omega)).trans (show LsW 1 (24 : Int32).toInt 0 = 102 from by decide +kernel), (h.2 1 (by omega)).trans (show LsW 1 (24 : Int32).toInt 1 = 101 from by decide +kernel), (h.2 2 (by omega)).trans (show LsW 1 (24 : Int32).toInt 2 = 101 from by decide +kernel)⟩
    · intro h
      obtain ⟨h0, q0, q1, q2⟩ := h
      refine ⟨h0.trans hm.symm, fun j hj => ?_⟩
      rcases (by omega : j = 0 ∨ j = 1 ∨ j = 2) with rfl | rfl | rfl
      · exact q0.trans (show (102 : Int) = LsW 1 (24 : Int32).toInt 0 from by decide +kernel)
      · exact q1.trans (show (101 : Int) = LsW 1 (24 : Int32).toInt 1 from by decide +kernel)
      · exact q2.trans (show (101 : Int) = LsW 1 (24 : Int32).toInt 2 from by decide +kernel)
  rw [c] at h; exact h
theorem cs_2_0 {t : Nat → Int} {s e R : Int} (h : (R = 1 ∧ WdG t s e ((4 : Int32).toInt - (0 : Int32).toInt) (LsW 2 (0 : Int32).toInt)) ∨ (R = 0 ∧ ¬ WdG t s e ((4 : Int32).toInt - (0 : Int32).toInt) (LsW 2 (0 : Int32).toInt))) : (R = 1 ∧ w_mean t s e) ∨ (R = 0 ∧ ¬ w_mean t s e) := by
  have hm : (4 : Int32).toInt - (0 : Int32).toInt = 4 := (by decide)
  have c : WdG t s e ((4 : Int32).toInt - (0 : Int32).toInt) (LsW 2 (0 : Int32).toInt) ↔ w_mean t s e := by
    constructor
    · intro h
      exact ⟨h.1.trans hm, (h.2 0 (by omega)).trans (show LsW 2 (0 : Int32).toInt 0 = 109 from by decide +kernel), (h.2 1 (by omega)).trans (show LsW 2 (0 : Int32).toInt 1 = 101 from by decide +kernel), (h.2 2 (by omega)).trans (show LsW 2 (0 : Int32).toInt 2 = 97 from by decide +kernel), (h.2 3 (by omega)).trans (show LsW 2 (0 : Int32).toInt 3 = 110 from by decide +kernel)⟩
    · intro h
      obtain ⟨h0, q0, q1, q2, q3⟩ := h
      refine ⟨h0.trans hm.symm, fun j hj => ?_⟩
      rcases (by omega : j = 0 ∨ j = 1 ∨ j = 2 ∨ j = 3) with rfl | rfl | rfl | rfl
      · exact q0.trans (show (109 : Int) = LsW 2 (0 : Int32).toInt 0 from by decide +kernel)
      · exact q1.trans (show (101 : Int) = LsW 2 (0 : Int32).toInt 1 from by decide +kernel)
      · exact q2.trans (show (97 : Int) = LsW 2 (0 : Int32).toInt 2 from by decide +kernel)
      · exact q3.trans (show (110 : Int) = LsW 2 (0 : Int32).toInt 3 from by decide +kernel)
  rw [c] at h; exact h
theorem cs_2_5 {t : Nat → Int} {s e R : Int} (h : (R = 1 ∧ WdG t s e ((10 : Int32).toInt - (5 : Int32).toInt) (LsW 2 (5 : Int32).toInt)) ∨ (R = 0 ∧ ¬ WdG t s e ((10 : Int32).toInt - (5 : Int32).toInt) (LsW 2 (5 : Int32).toInt))) : (R = 1 ∧ w_least t s e) ∨ (R = 0 ∧ ¬ w_least t s e) := by
  have hm : (10 : Int32).toInt - (5 : Int32).toInt = 5 := (by decide)
  have c : WdG t s e ((10 : Int32).toInt - (5 : Int32).toInt) (LsW 2 (5 : Int32).toInt) ↔ w_least t s e := by
    constructor
    · intro h
      exact ⟨h.1.trans hm, (h.2 0 (by omega)).trans (show LsW 2 (5 : Int32).toInt 0 = 108 from by decide +kernel), (h.2 1 (by omega)).trans (show LsW 2 (5 : Int32).toInt 1 = 101 from by decide +kernel), (h.2 2 (by omega)).trans (show LsW 2 (5 : Int32).toInt 2 = 97 from by decide +kernel), (h.2 3 (by omega)).trans (show LsW 2 (5 : Int32).toInt 3 = 115 from by decide +kernel), (h.2 4 (by omega)).trans (show LsW 2 (5 : Int32).toInt 4 = 116 from by decide +kernel)⟩
    · intro h
      obtain ⟨h0, q0, q1, q2, q3, q4⟩ := h
      refine ⟨h0.trans hm.symm, fun j hj => ?_⟩
      rcases (by omega : j = 0 ∨ j = 1 ∨ j = 2 ∨ j = 3 ∨ j = 4) with rfl | rfl | rfl | rfl | rfl
      · exact q0.trans (show (108 : Int) = LsW 2 (5 : Int32).toInt 0 from by decide +kernel)
      · exact q1.trans (show (101 : Int) = LsW 2 (5 : Int32).toInt 1 from by decide +kernel)
      · exact q2.trans (show (97 : Int) = LsW 2 (5 : Int32).toInt 2 from by decide +kernel)
      · exact q3.trans (show (115 : Int) = LsW 2 (5 : Int32).toInt 3 from by decide +kernel)
      · exact q4.trans (show (116 : Int) = LsW 2 (5 : Int32).toInt 4 from by decide +kernel)
  rw [c] at h; exact h
theorem cs_2_11 {t : Nat → Int} {s e R : Int} (h : (R = 1 ∧ WdG t s e ((17 : Int32).toInt - (11 : Int32).toInt) (LsW 2 (11 : Int32).toInt)) ∨ (R = 0 ∧ ¬ WdG t s e ((17 : Int32).toInt - (11 : Int32).toInt) (LsW 2 (11 : Int32).toInt))) : (R = 1 ∧ w_middle t s e) ∨ (R = 0 ∧ ¬ w_middle t s e) := by
  have hm : (17 : Int32).toInt - (11 : Int32).toInt = 6 := (by decide)
  have c : WdG t s e ((17 : Int32).toInt - (11 : Int32).toInt) (LsW 2 (11 : Int32).toInt) ↔ w_middle t s e := by
    constructor
    · intro h
      exact ⟨h.1.trans hm, (h.2 0 (by omega)).trans (show LsW 2 (11 : Int32).toInt 0 = 109 from by decide +kernel), (h.2 1 (by omega)).trans (show LsW 2 (11 : Int32).toInt 1 = 105 from by decide +kernel), (h.2 2 (by omega)).trans (show LsW 2 (11 : Int32).toInt 2 = 100 from by decide +kernel), (h.2 3 (by omega)).trans (show LsW 2 (11 : Int32).toInt 3 = 100 from by decide +kernel), (h.2 4 (by omega)).trans (show LsW 2 (11 : Int32).toInt 4 = 108 from by decide +kernel), (h.2 5 (by omega)).trans (show LsW 2 (11 : Int32).toInt 5 = 101 from by decide +kernel)⟩
    · intro h
      obtain ⟨h0, q0, q1, q2, q3, q4, q5⟩ := h
      refine ⟨h0.trans hm.symm, fun j hj => ?_⟩
      rcases (by omega : j = 0 ∨ j = 1 ∨ j = 2 ∨ j = 3 ∨ j = 4 ∨ j = 5) with rfl | rfl | rfl | rfl | rfl | rfl
      · exact q0.trans (show (109 : Int) = LsW 2 (11 : Int32).toInt 0 from by decide +kernel)
      · exact q1.trans (show (105 : Int) = LsW 2 (11 : Int32).toInt 1 from by decide +kernel)
      · exact q2.trans (show (100 : Int) = LsW 2 (11 : Int32).toInt 2 from by decide +kernel)
      · exact q3.trans (show (100 : Int) = LsW 2 (11 : Int32).toInt 3 from by decide +kernel)
      · exact q4.trans (show (108 : Int) = LsW 2 (11 : Int32).toInt 4 from by decide +kernel)
      · exact q5.trans (show (101 : Int) = LsW 2 (11 : Int32).toInt 5 from by decide +kernel)
  rw [c] at h; exact h
theorem cs_3_0 {t : Nat → Int} {s e R : Int} (h : (R = 1 ∧ WdG t s e ((2 : Int32).toInt - (0 : Int32).toInt) (LsW 3 (0 : Int32).toInt)) ∨ (R = 0 ∧ ¬ WdG t s e ((2 : Int32).toInt - (0 : Int32).toInt) (LsW 3 (0 : Int32).toInt))) : (R = 1 ∧ w_to t s e) ∨ (R = 0 ∧ ¬ w_to t s e) := by
  have hm : (2 : Int32).toInt - (0 : Int32).toInt = 2 := (by decide)
  have c : WdG t s e ((2 : Int32).toInt - (0 : Int32).toInt) (LsW 3 (0 : Int32).toInt) ↔ w_to t s e := by
    constructor
    · intro h
      exact ⟨h.1.trans hm, (h.2 0 (by omega)).trans (show LsW 3 (0 : Int32).toInt 0 = 116 from by decide +kernel), (h.2 1 (by omega)).trans (show LsW 3 (0 : Int32).toInt 1 = 111 from by decide +kernel)⟩
    · intro h
      obtain ⟨h0, q0, q1⟩ := h
      refine ⟨h0.trans hm.symm, fun j hj => ?_⟩
      rcases (by omega : j = 0 ∨ j = 1) with rfl | rfl
      · exact q0.trans (show (116 : Int) = LsW 3 (0 : Int32).toInt 0 from by decide +kernel)
      · exact q1.trans (show (111 : Int) = LsW 3 (0 : Int32).toInt 1 from by decide +kernel)
  rw [c] at h; exact h
set_option maxHeartbeats 4000000 in
set_option maxRecDepth 100000 in
/-- X8_isSame -/
theorem c_X8_isSame_g0 (l : Launch) (dC : Nat → ClassId) (dI : Nat → Nat → Nat) (ak av : Nat → Nat) (h : Nat) (g : Nat → Nat → Nat) (ca : Nat → Nat → ClassId) (iv : Nat → Nat → Int32) (lv : Nat → Nat → Int64) (fa : Nat → Nat → Nat → Int32) (la : Nat → Nat → Nat → Int64) (hI : IX iv fa) (a : Int32) (b : Int32) (d : Int32) (h_a : 0 ≤ a.toInt ∧ a.toInt ≤ 21) (h_b : 0 ≤ b.toInt ∧ b.toInt ≤ 20) (h_d : 0 ≤ d.toInt ∧ d.toInt ≤ 200) : Met l yX8_isSame (wc yX8_isSame cX8_isSame 6 (some .boolean)) ({ frames := 4, cells := 0, slots := 0, locals := 85 } : Room) (pRZ ak av (dC, dI) classes (WX h g ca iv lv fa la) (TX ca) [.ref (g 11 4), .ref (ak 0), .int a, .int b, .int d]) (vp_Si (fun r => (0 ≤ r.toInt ∧ r.toInt ≤ 1) ∧ (((r.toInt = 1 ∧ WdG (fun j => ((fa 8 1) j).toInt) (iv 8 5).toInt d.toInt (b.toInt - a.toInt) (LsW 0 a.toInt)) ∨ (r.toInt = 0 ∧ ¬ WdG (fun j => ((fa 8 1) j).toInt) (iv 8 5).toInt d.toInt (b.toInt - a.toInt) (LsW 0 a.toInt)))))) 0 0 (fun _ => False) := by
  refine Met.ofW (cc := cX8_isSame) (maxL := 6) (ret := (some .boolean)) (by decide) rfl ?_
  intro p e s m args below meth c s₁ B hml hv
  obtain ⟨rfl, hP, hK, hZ⟩ := hv
  have hx := B.exec
  have hb := B.bytes
  have hr := B.returns
  have ht := tb_tl (atoms_spec (ws := wc yX8_isSame cX8_isSame 6 (some .boolean)) B.pre)
  have hown : s.vm.findClass RX8 = some m.cls := findClass_of_methodNamed B.named
  have hlocks := B.notSynchronized
  have hl := lv_entry [.ref (g 11 4), .ref (ak 0), .int a, .int b, .int d] (n := 6) (Nat.le_of_ble_eq_true rfl)
  rw [lg_entry_eq]
  generalize (lg_sl [.ref (g 11 4), .ref (ak 0), .int a, .int b, .int d] ++ List.replicate (6 - (lg_sl [.ref (g 11 4), .ref (ak 0), .int a, .int b, .int d]).length) Slot.unset).toArray = ls at hl ⊢
  have hl : lv_has ls 6 [(0, .ref (g 11 4)), (1, .ref (ak 0)), (2, .int a), (3, .int b), (4, .int d)] := hl
  refine lv_iload_n hx hb dX8_isSame_0 rfl (lv_at hl 3 rfl) ?_
  refine lv_iload_n hx hb dX8_isSame_1 rfl (lv_at hl 2 rfl) ?_
  refine lv_isub hx hb dX8_isSame_2 ?_
  refine lv_topi (fun v1 ev1 => ?_)
  have tv1 := z_sub ev1 (rfl : (b).toInt = _) (rfl : (a).toInt = _) (by omega) (by omega)
  refine lv_iload hx hb dX8_isSame_3 (lv_at hl 4 rfl) ?_
  refine lv_aload_n hx hb dX8_isSame_5 rfl (lv_at hl 0 rfl) ?_
  have i_8_5 : 0 ≤ (iv 8 5).toInt ∧ (iv 8 5).toInt ≤ 200 := hI.1 8 5
  refine gX_8_5 hx hb ht hown hK hP m_235 (v := (iv 8 5)) rfl dX8_isSame_6 ?_
  refine lv_isub hx hb dX8_isSame_9 ?_
  refine lv_topi (fun v2 ev2 => ?_)
  have tv2 := z_sub ev2 (rfl : (d).toInt = _) (rfl : ((iv 8 5)).toInt = _) (by omega) (by omega)
  refine lv_icmp_eq (tgt := 15) hx hb dX8_isSame_10 (by decide) (fun c3 => ?_) (fun c3 => ?_)
  · have fc3 := z_eq (rfl : (v1).toInt = _) (rfl : (v2).toInt = _) c3
    refine lv_iconst (v := 0) hx hb dX8_isSame_15 (by decide) ?_
    refine lv_istore (lv' := [(5, .int 0), (0, .ref (g 11 4)), (1, .ref (ak 0)), (2, .int a), (3, .int b), (4, .int d)]) hx hb dX8_isSame_16 hl (by decide) rfl (fun ls hl => ?_)
    have lp149 : ∀ (nn149 : Nat) (x148_5 : Int32), 0 ≤ x148_5.toInt ∧ x148_5.toInt ≤ 29 → (∀ j : Nat, (j : Int) < (x148_5 : Int32).toInt → (fun j => ((fa 8 1) j).toInt) ((((iv 8 5) : Int32).toInt).toNat + j) = LsW 0 (a).toInt j) → 29 - x148_5.toInt < (nn149 : Int) → ∀ (ls : Array Slot), lv_has ls 6 [(5, .int x148_5), (0, .ref (g 11 4)), (1, .ref (ak 0)), (2, .int a), (3, .int b), (4, .int d)] → W p l e ({ frames := 4, cells := 0, slots := 0, locals := 85 } : Room) s m ([.ref (g 11 4), .ref (ak 0), .int a, .int b, .int d] : List Value).toArray below meth c s.heap [] 0 0 (MQ below (vp_Si (fun r => (0 ≤ r.toInt ∧ r.toInt ≤ 1) ∧ (((r.toInt = 1 ∧ WdG (fun j => ((fa 8 1) j).toInt) (iv 8 5).toInt d.toInt (b.toInt - a.toInt) (LsW 0 a.toInt)) ∨ (r.toInt = 0 ∧ ¬ WdG (fun j => ((fa 8 1) j).toInt) (iv 8 5).toInt d.toInt (b.toInt - a.toInt) (LsW 0 a.toInt)))))) ([.ref (g 11 4), .ref (ak 0), .int a, .int b, .int d] : List Value).toArray s 0 0 (fun _ => False)) (F0 m 18 ls []) := by
      intro nn149
      induction nn149 with
      | zero => intro x148_5 hx148_5 hq149_0 hm149; exfalso; omega
      | succ nn149 ih149 =>
        intro x148_5 hx148_5 hq149_0 hm149 ls hl
        refine lv_iload hx hb dX8_isSame_18 (lv_at hl 0 rfl) ?_
        refine lv_iload_n hx hb dX8_isSame_20 rfl (lv_at hl 4 rfl) ?_
        refine lv_iload_n hx hb dX8_isSame_21 rfl (lv_at hl 3 rfl) ?_
        refine lv_isub hx hb dX8_isSame_22 ?_
        refine lv_topi (fun v150 ev150 => ?_)
        obtain rfl : v1 = v150 := ev1.trans ev150.symm
        refine lv_icmp_ge (tgt := 57) hx hb dX8_isSame_23 (by decide) (fun c151 => ?_) (fun c151 => ?_)
        · have fc151 := z_le (rfl : (v1).toInt = _) (rfl : (x148_5).toInt = _) c151
          refine lv_iconst (v := 1) hx hb dX8_isSame_57 (by decide) ?_
          have : (1 : Int32).toInt = 1 := (by decide)
          exact W.zret (v := 1) hx hb hr rfl (fun t ht9 hW => ⟨1, rfl, ⟨⟨by decide, by decide⟩, (show (((1 : Int32).toInt = 1 ∧ WdG (fun j => ((fa 8 1) j).toInt) ((iv 8 5) : Int32).toInt (d).toInt ((b).toInt - (a).toInt) (LsW 0 (a).toInt)) ∨ ((1 : Int32).toInt = 0 ∧ ¬ WdG (fun j => ((fa 8 1) j).toInt) ((iv 8 5) : Int32).toInt (d).toInt ((b).toInt - (a).toInt) (LsW 0 (a).toInt))) from (Or.inl ⟨by omega, by omega, fun j hj => hq149_0 j (by omega)⟩))⟩, ht9⟩) (fun q hq => by cases hq) dX8_isSame_58
        · have fc151 := z_nle (rfl : (v1).toInt = _) (rfl : (x148_5).toInt = _) c151
          refine lv_aload_n hx hb dX8_isSame_26 rfl (lv_at hl 2 rfl) ?_
          refine lv_iload_n hx hb dX8_isSame_27 rfl (lv_at hl 3 rfl) ?_
          refine lv_iload hx hb dX8_isSame_28 (lv_at hl 0 rfl) ?_
          refine lv_iadd hx hb dX8_isSame_30 ?_
          refine lv_topi (fun v152 ev152 => ?_)
          have tv152 := z_add ev152 (rfl : (a).toInt = _) (rfl : (x148_5).toInt = _) (by omega) (by omega)
          have : 0 ≤ (v152 : Int32).toInt ∧ (v152 : Int32).toInt ≤ 20 := ⟨by omega, by omega⟩
          refine vp_callSi (W.runV (As := [.int v152]) (rest := []) ⟨hx, hb, hml, hown, ht⟩ (c_J0_charAt_5068e_0 l dC dI ak av v152 ⟨by omega, by omega⟩) (kV 1 ht m_715 m_716 m_717 m_91 m_718 rfl rfl hd_J0_charAt_5068e_v ⟨Nat.le_of_ble_eq_true rfl, Nat.le_of_ble_eq_true rfl⟩) (vRZ noP (hK.sub (tys' := []) [] rfl) hZ (vk_recv hZ.1.2.2.2.2.2 (i := 0) (by decide) va_S.rf)) rfl rfl hl.1 rfl (lv_room (Nat.le_of_ble_eq_true rfl)) dX8_isSame_31 ⟨Nat.le_of_ble_eq_true rfl, Nat.le_of_ble_eq_true rfl⟩) (fun r153 hr153 => ?_)
          refine lv_aload_n hx hb dX8_isSame_34 rfl (lv_at hl 1 rfl) ?_
          refine gX_8_1 hx hb ht hown hK hP m_229 dX8_isSame_35 ?_
          refine lv_aload_n hx hb dX8_isSame_38 rfl (lv_at hl 1 rfl) ?_
          refine gX_8_5 hx hb ht hown hK hP m_235 (v := (iv 8 5)) rfl dX8_isSame_39 ?_
          refine lv_iload hx hb dX8_isSame_42 (lv_at hl 0 rfl) ?_
          refine lv_iadd hx hb dX8_isSame_44 ?_
          refine lv_topi (fun v154 ev154 => ?_)
          have tv154 := z_add ev154 (rfl : ((iv 8 5)).toInt = _) (rfl : (x148_5).toInt = _) (by omega) (by omega)
          have : 0 ≤ (v154 : Int32).toInt ∧ (v154 : Int32).toInt ≤ 199 := ⟨by omega, by omega⟩
          refine lX_8_1 hx hb hK hP (f := (fa 8 1)) rfl (vp_in_iff.mpr ⟨by omega, by omega⟩) dX8_isSame_45 ?_
          refine lv_topi (fun v155 ev155 => ?_)
          refine lv_icmp_eq (tgt := 51) hx hb dX8_isSame_46 (by decide) (fun c156 => ?_) (fun c156 => ?_)
          · have fc156 := z_eq (rfl : (r153).toInt = _) (rfl : (v155).toInt = _) c156
            obtain ⟨v157, ev157⟩ : ∃ y : Int32, y = x148_5 + 1 := ⟨_, rfl⟩
            have tv157 := z_add ev157 rfl (by decide : (1 : Int32).toInt = 1) (by omega) (by omega)
            refine lv_iinc (v := v157) (lv' := [(5, .int v157), (0, .ref (g 11 4)), (1, .ref (ak 0)), (2, .int a), (3, .int b), (4, .int d)]) hx hb dX8_isSame_51 hl (k := 0) rfl (by rw [ev157]; rfl) (by decide) rfl (fun ls hl => ?_)
            refine lv_goto (tgt := 18) hx hb dX8_isSame_54 (by decide) ?_
            exact ih149 v157 ⟨by omega, by omega⟩ (show ∀ j : Nat, (j : Int) < (v157 : Int32).toInt → (fun j => ((fa 8 1) j).toInt) ((((iv 8 5) : Int32).toInt).toNat + j) = LsW 0 (a).toInt j from (fun j hj => by
                  by_cases hj2 : (j : Int) < (x148_5 : Int32).toInt
                  · exact hq149_0 j hj2
                  · have hj3 : j = ((x148_5 : Int32).toInt).toNat := by omega
                    rw [hj3]
                    have q0 : (v155 : Int32).toInt = (fa 8 1 ((iv 8 5).toInt.toNat + ((x148_5 : Int32).toInt).toNat)).toInt := congrArg Int32.toInt (ev155.trans (congrArg (fa 8 1) (show (v154 : Int32).toNatClampNeg = (iv 8 5).toInt.toNat + ((x148_5 : Int32).toInt).toNat from (by show (v154 : Int32).toInt.toNat = _; omega))))
                    have q1 : (r153 : Int32).toInt = ((S_byt.getD 0 []).getD (a.toInt.toNat + ((x148_5 : Int32).toInt).toNat) 0).toInt := congrArg Int32.toInt (hr153.trans (congrArg (fun z => (S_byt.getD 0 []).getD z 0) (show (v152 : Int32).toNatClampNeg = a.toInt.toNat + ((x148_5 : Int32).toInt).toNat from (by show (v152 : Int32).toInt.toNat = _; omega))))
                    show (fa 8 1 ((iv 8 5).toInt.toNat + ((x148_5 : Int32).toInt).toNat)).toInt = ((S_byt.getD 0 []).getD (a.toInt.toNat + ((x148_5 : Int32).toInt).toNat) 0).toInt
                    omega)) (by omega) ls (lv_sub hl [0, 1, 2, 3, 4, 5] rfl)
          · have fc156 := z_ne (rfl : (r153).toInt = _) (rfl : (v155).toInt = _) c156
            refine lv_iconst (v := 0) hx hb dX8_isSame_49 (by decide) ?_
            have : (0 : Int32).toInt = 0 := (by decide)
            exact W.zret (v := 0) hx hb hr rfl (fun t ht9 hW => ⟨0, rfl, ⟨⟨by decide, by decide⟩, (show (((0 : Int32).toInt = 1 ∧ WdG (fun j => ((fa 8 1) j).toInt) ((iv 8 5) : Int32).toInt (d).toInt ((b).toInt - (a).toInt) (LsW 0 (a).toInt)) ∨ ((0 : Int32).toInt = 0 ∧ ¬ WdG (fun j => ((fa 8 1) j).toInt) ((iv 8 5) : Int32).toInt (d).toInt ((b).toInt - (a).toInt) (LsW 0 (a).toInt))) from (by
                  refine Or.inr ⟨by omega, fun h9 => ?_⟩
                  obtain ⟨-, h8⟩ := h9
                  have h7 : (fa 8 1 ((iv 8 5).toInt.toNat + ((x148_5 : Int32).toInt).toNat)).toInt = ((S_byt.getD 0 []).getD (a.toInt.toNat + ((x148_5 : Int32).toInt).toNat) 0).toInt := h8 ((x148_5 : Int32).toInt).toNat (by omega)
                  have q0 : (v155 : Int32).toInt = (fa 8 1 ((iv 8 5).toInt.toNat + ((x148_5 : Int32).toInt).toNat)).toInt := congrArg Int32.toInt (ev155.trans (congrArg (fa 8 1) (show (v154 : Int32).toNatClampNeg = (iv 8 5).toInt.toNat + ((x148_5 : Int32).toInt).toNat from (by show (v154 : Int32).toInt.toNat = _; omega))))
                  have q1 : (r153 : Int32).toInt = ((S_byt.getD 0 []).getD (a.toInt.toNat + ((x148_5 : Int32).toInt).toNat) 0).toInt := congrArg Int32.toInt (hr153.trans (congrArg (fun z => (S_byt.getD 0 []).getD z 0) (show (v152 : Int32).toNatClampNeg = a.toInt.toNat + ((x148_5 : Int32).toInt).toNat from (by show (v152 : Int32).toInt.toNat = _; omega))))
                  omega))⟩, ht9⟩) (fun q hq => by cases hq) dX8_isSame_50
    have : (0 : Int32).toInt = 0 := (by decide)
    exact lp149 30 0 ⟨by decide, by decide⟩ (show ∀ j : Nat, (j : Int) < (0 : Int32).toInt → (fun j => ((fa 8 1) j).toInt) ((((iv 8 5) : Int32).toInt).toNat + j) = LsW 0 (a).toInt j from (fun j hj => absurd hj (by omega))) (by first | decide | omega) ls (lv_sub hl [0, 1, 2, 3, 4, 5] rfl)
  · have fc3 := z_ne (rfl : (v1).toInt = _) (rfl : (v2).toInt = _) c3
    refine lv_iconst (v := 0) hx hb dX8_isSame_13 (by decide) ?_
    have : (0 : Int32).toInt = 0 := (by decide)
    exact W.zret (v := 0) hx hb hr rfl (fun t ht9 hW => ⟨0, rfl, ⟨⟨by decide, by decide⟩, (show (((0 : Int32).toInt = 1 ∧ WdG (fun j => ((fa 8 1) j).toInt) ((iv 8 5) : Int32).toInt (d).toInt ((b).toInt - (a).toInt) (LsW 0 (a).toInt)) ∨ ((0 : Int32).toInt = 0 ∧ ¬ WdG (fun j => ((fa 8 1) j).toInt) ((iv 8 5) : Int32).toInt (d).toInt ((b).toInt - (a).toInt) (LsW 0 (a).toInt))) from (Or.inr ⟨by omega, fun h9 => (by obtain ⟨h8, -⟩ := h9; omega)⟩))⟩, ht9⟩) (fun q hq => by cases hq) dX8_isSame_14
set_option maxHeartbeats 4000000 in
set_option maxRecDepth 100000 in
/-- X8_isSame -/
theorem c_X8_isSame_g1 (l : Launch) (dC : Nat → ClassId) (dI : Nat → Nat → Nat) (ak av : Nat → Nat) (h : Nat) (g : Nat → Nat → Nat) (ca : Nat → Nat → ClassId) (iv : Nat → Nat → Int32) (lv : Nat → Nat → Int64) (fa : Nat → Nat → Nat → Int32) (la : Nat → Nat → Nat → Int64) (hI : IX iv fa) (a : Int32) (b : Int32) (d : Int32) (h_a : 0 ≤ a.toInt ∧ a.toInt ≤ 28) (h_b : 0 ≤ b.toInt ∧ b.toInt ≤ 27) (h_d : 0 ≤ d.toInt ∧ d.toInt ≤ 200) : Met l yX8_isSame (wc yX8_isSame cX8_isSame 6 (some .boolean)) ({ frames := 4, cells := 0, slots := 0, locals := 85 } : Room) (pRZ ak av (dC, dI) classes (WX h g ca iv lv fa la) (TX ca) [.ref (g 11 4), .ref (ak 1), .int a, .int b, .int d]) (vp_Si (fun r => (0 ≤ r.toInt ∧ r.toInt ≤ 1) ∧ (((r.toInt = 1 ∧ WdG (fun j => ((fa 8 1) j).toInt) (iv 8 5).toInt d.toInt (b.toInt - a.toInt) (LsW 1 a.toInt)) ∨ (r.toInt = 0 ∧ ¬ WdG (fun j => ((fa 8 1) j).toInt) (iv 8 5).toInt d.toInt (b.toInt - a.toInt) (LsW 1 a.toInt)))))) 0 0 (fun _ => False) := by
  refine Met.ofW (cc := cX8_isSame) (maxL := 6) (ret := (some .boolean)) (by decide) rfl ?_
  intro p e s m args below meth c s₁ B hml hv
  obtain ⟨rfl, hP, hK, hZ⟩ := hv
  have hx := B.exec
  have hb := B.bytes
  have hr := B.returns
  have ht := tb_tl (atoms_spec (ws := wc yX8_isSame cX8_isSame 6 (some .boolean)) B.pre)
  have hown : s.vm.findClass RX8 = some m.cls := findClass_of_methodNamed B.named
  have hlocks := B.notSynchronized
  have hl := lv_entry [.ref (g 11 4), .ref (ak 1), .int a, .int b, .int d] (n := 6) (Nat.le_of_ble_eq_true rfl)
  rw [lg_entry_eq]
  generalize (lg_sl [.ref (g 11 4), .ref (ak 1), .int a, .int b, .int d] ++ List.replicate (6 - (lg_sl [.ref (g 11 4), .ref (ak 1), .int a, .int b, .int d]).length) Slot.unset).toArray = ls at hl ⊢
  have hl : lv_has ls 6 [(0, .ref (g 11 4)), (1, .ref (ak 1)), (2, .int a), (3, .int b), (4, .int d)] := hl
  refine lv_iload_n hx hb dX8_isSame_0 rfl (lv_at hl 3 rfl) ?_
  refine lv_iload_n hx hb dX8_isSame_1 rfl (lv_at hl 2 rfl) ?_
  refine lv_isub hx hb dX8_isSame_2 ?_
  refine lv_topi (fun v1 ev1 => ?_)
  have tv1 := z_sub ev1 (rfl : (b).toInt = _) (rfl : (a).toInt = _) (by omega) (by omega)
  refine lv_iload hx hb dX8_isSame_3 (lv_at hl 4 rfl) ?_
  refine lv_aload_n hx hb dX8_isSame_5 rfl (lv_at hl 0 rfl) ?_
  have i_8_5 : 0 ≤ (iv 8 5).toInt ∧ (iv 8 5).toInt ≤ 200 := hI.1 8 5
  refine gX_8_5 hx hb ht hown hK hP m_235 (v := (iv 8 5)) rfl dX8_isSame_6 ?_
  refine lv_isub hx hb dX8_isSame_9 ?_
  refine lv_topi (fun v2 ev2 => ?_)
  have tv2 := z_sub ev2 (rfl : (d).toInt = _) (rfl : ((iv 8 5)).toInt = _) (by omega) (by omega)
  refine lv_icmp_eq (tgt := 15) hx hb dX8_isSame_10 (by decide) (fun c3 => ?_) (fun c3 => ?_)
  · have fc3 := z_eq (rfl : (v1).toInt = _) (rfl : (v2).toInt = _) c3
    refine lv_iconst (v := 0) hx hb dX8_isSame_15 (by decide) ?_
    refine lv_istore (lv' := [(5, .int 0), (0, .ref (g 11 4)), (1, .ref (ak 1)), (2, .int a), (3, .int b), (4, .int d)]) hx hb dX8_isSame_16 hl (by decide) rfl (fun ls hl => ?_)
    have lp149 : ∀ (nn149 : Nat) (x148_5 : Int32), 0 ≤ x148_5.toInt ∧ x148_5.toInt ≤ 29 → (∀ j : Nat, (j : Int) < (x148_5 : Int32).toInt → (fun j => ((fa 8 1) j).toInt) ((((iv 8 5) : Int32).toInt).toNat + j) = LsW 1 (a).toInt j) → 29 - x148_5.toInt < (nn149 : Int) → ∀ (ls : Array Slot), lv_has ls 6 [(5, .int x148_5), (0, .ref (g 11 4)), (1, .ref (ak 1)), (2, .int a), (3, .int b), (4, .int d)] → W p l e ({ frames := 4, cells := 0, slots := 0, locals := 85 } : Room) s m ([.ref (g 11 4), .ref (ak 1), .int a, .int b, .int d] : List Value).toArray below meth c s.heap [] 0 0 (MQ below (vp_Si (fun r => (0 ≤ r.toInt ∧ r.toInt ≤ 1) ∧ (((r.toInt = 1 ∧ WdG (fun j => ((fa 8 1) j).toInt) (iv 8 5).toInt d.toInt (b.toInt - a.toInt) (LsW 1 a.toInt)) ∨ (r.toInt = 0 ∧ ¬ WdG (fun j => ((fa 8 1) j).toInt) (iv 8 5).toInt d.toInt (b.toInt - a.toInt) (LsW 1 a.toInt)))))) ([.ref (g 11 4), .ref (ak 1), .int a, .int b, .int d] : List Value).toArray s 0 0 (fun _ => False)) (F0 m 18 ls []) := by
      intro nn149
      induction nn149 with
      | zero => intro x148_5 hx148_5 hq149_0 hm149; exfalso; omega
      | succ nn149 ih149 =>
        intro x148_5 hx148_5 hq149_0 hm149 ls hl
        refine lv_iload hx hb dX8_isSame_18 (lv_at hl 0 rfl) ?_
        refine lv_iload_n hx hb dX8_isSame_20 rfl (lv_at hl 4 rfl) ?_
        refine lv_iload_n hx hb dX8_isSame_21 rfl (lv_at hl 3 rfl) ?_
        refine lv_isub hx hb dX8_isSame_22 ?_
        refine lv_topi (fun v150 ev150 => ?_)
        obtain rfl : v1 = v150 := ev1.trans ev150.symm
        refine lv_icmp_ge (tgt := 57) hx hb dX8_isSame_23 (by decide) (fun c151 => ?_) (fun c151 => ?_)
        · have fc151 := z_le (rfl : (v1).toInt = _) (rfl : (x148_5).toInt = _) c151
          refine lv_iconst (v := 1) hx hb dX8_isSame_57 (by decide) ?_
          have : (1 : Int32).toInt = 1 := (by decide)
          exact W.zret (v := 1) hx hb hr rfl (fun t ht9 hW => ⟨1, rfl, ⟨⟨by decide, by decide⟩, (show (((1 : Int32).toInt = 1 ∧ WdG (fun j => ((fa 8 1) j).toInt) ((iv 8 5) : Int32).toInt (d).toInt ((b).toInt - (a).toInt) (LsW 1 (a).toInt)) ∨ ((1 : Int32).toInt = 0 ∧ ¬ WdG (fun j => ((fa 8 1) j).toInt) ((iv 8 5) : Int32).toInt (d).toInt ((b).toInt - (a).toInt) (LsW 1 (a).toInt))) from (Or.inl ⟨by omega, by omega, fun j hj => hq149_0 j (by omega)⟩))⟩, ht9⟩) (fun q hq => by cases hq) dX8_isSame_58
        · have fc151 := z_nle (rfl : (v1).toInt = _) (rfl : (x148_5).toInt = _) c151
          refine lv_aload_n hx hb dX8_isSame_26 rfl (lv_at hl 2 rfl) ?_
          refine lv_iload_n hx hb dX8_isSame_27 rfl (lv_at hl 3 rfl) ?_
          refine lv_iload hx hb dX8_isSame_28 (lv_at hl 0 rfl) ?_
          refine lv_iadd hx hb dX8_isSame_30 ?_
          refine lv_topi (fun v152 ev152 => ?_)
          have tv152 := z_add ev152 (rfl : (a).toInt = _) (rfl : (x148_5).toInt = _) (by omega) (by omega)
          have : 0 ≤ (v152 : Int32).toInt ∧ (v152 : Int32).toInt ≤ 27 := ⟨by omega, by omega⟩
          refine vp_callSi (W.runV (As := [.int v152]) (rest := []) ⟨hx, hb, hml, hown, ht⟩ (c_J0_charAt_5068e_1 l dC dI ak av v152 ⟨by omega, by omega⟩) (kV 1 ht m_715 m_716 m_717 m_91 m_718 rfl rfl hd_J0_charAt_5068e_v ⟨Nat.le_of_ble_eq_true rfl, Nat.le_of_ble_eq_true rfl⟩) (vRZ noP (hK.sub (tys' := []) [] rfl) hZ (vk_recv hZ.1.2.2.2.2.2 (i := 1) (by decide) va_S.rf)) rfl rfl hl.1 rfl (lv_room (Nat.le_of_ble_eq_true rfl)) dX8_isSame_31 ⟨Nat.le_of_ble_eq_true rfl, Nat.le_of_ble_eq_true rfl⟩) (fun r153 hr153 => ?_)
          refine lv_aload_n hx hb dX8_isSame_34 rfl (lv_at hl 1 rfl) ?_
          refine gX_8_1 hx hb ht hown hK hP m_229 dX8_isSame_35 ?_
          refine lv_aload_n hx hb dX8_isSame_38 rfl (lv_at hl 1 rfl) ?_
          refine gX_8_5 hx hb ht hown hK hP m_235 (v := (iv 8 5)) rfl dX8_isSame_39 ?_
          refine lv_iload hx hb dX8_isSame_42 (lv_at hl 0 rfl) ?_
          refine lv_iadd hx hb dX8_isSame_44 ?_
          refine lv_topi (fun v154 ev154 => ?_)
          have tv154 := z_add ev154 (rfl : ((iv 8 5)).toInt = _) (rfl : (x148_5).toInt = _) (by omega) (by omega)
          have : 0 ≤ (v154 : Int32).toInt ∧ (v154 : Int32).toInt ≤ 199 := ⟨by omega, by omega⟩
          refine lX_8_1 hx hb hK hP (f := (fa 8 1)) rfl (vp_in_iff.mpr ⟨by omega, by omega⟩) dX8_isSame_45 ?_
          refine lv_topi (fun v155 ev155 => ?_)
          refine lv_icmp_eq (tgt := 51) hx hb dX8_isSame_46 (by decide) (fun c156 => ?_) (fun c156 => ?_)
          · have fc156 := z_eq (rfl : (r153).toInt = _) (rfl : (v155).toInt = _) c156
            obtain ⟨v157, ev157⟩ : ∃ y : Int32, y = x148_5 + 1 := ⟨_, rfl⟩
            have tv157 := z_add ev157 rfl (by decide : (1 : Int32).toInt = 1) (by omega) (by omega)
            refine lv_iinc (v := v157) (lv' := [(5, .int v157), (0, .ref (g 11 4)), (1, .ref (ak 1)), (2, .int a), (3, .int b), (4, .int d)]) hx hb dX8_isSame_51 hl (k := 0) rfl (by rw [ev157]; rfl) (by decide) rfl (fun ls hl => ?_)
            refine lv_goto (tgt := 18) hx hb dX8_isSame_54 (by decide) ?_
            exact ih149 v157 ⟨by omega, by omega⟩ (show ∀ j : Nat, (j : Int) < (v157 : Int32).toInt → (fun j => ((fa 8 1) j).toInt) ((((iv 8 5) : Int32).toInt).toNat + j) = LsW 1 (a).toInt j from (fun j hj => by
                  by_cases hj2 : (j : Int) < (x148_5 : Int32).toInt
                  · exact hq149_0 j hj2
                  · have hj3 : j = ((x148_5 : Int32).toInt).toNat := by omega
                    rw [hj3]
                    have q0 : (v155 : Int32).toInt = (fa 8 1 ((iv 8 5).toInt.toNat + ((x148_5 : Int32).toInt).toNat)).toInt := congrArg Int32.toInt (ev155.trans (congrArg (fa 8 1) (show (v154 : Int32).toNatClampNeg = (iv 8 5).toInt.toNat + ((x148_5 : Int32).toInt).toNat from (by show (v154 : Int32).toInt.toNat = _; omega))))
                    have q1 : (r153 : Int32).toInt = ((S_byt.getD 1 []).getD (a.toInt.toNat + ((x148_5 : Int32).toInt).toNat) 0).toInt := congrArg Int32.toInt (hr153.trans (congrArg (fun z => (S_byt.getD 1 []).getD z 0) (show (v152 : Int32).toNatClampNeg = a.toInt.toNat + ((x148_5 : Int32).toInt).toNat from (by show (v152 : Int32).toInt.toNat = _; omega))))
                    show (fa 8 1 ((iv 8 5).toInt.toNat + ((x148_5 : Int32).toInt).toNat)).toInt = ((S_byt.getD 1 []).getD (a.toInt.toNat + ((x148_5 : Int32).toInt).toNat) 0).toInt
                    omega)) (by omega) ls (lv_sub hl [0, 1, 2, 3, 4, 5] rfl)
          · have fc156 := z_ne (rfl : (r153).toInt = _) (rfl : (v155).toInt = _) c156
            refine lv_iconst (v := 0) hx hb dX8_isSame_49 (by decide) ?_
            have : (0 : Int32).toInt = 0 := (by decide)
            exact W.zret (v := 0) hx hb hr rfl (fun t ht9 hW => ⟨0, rfl, ⟨⟨by decide, by decide⟩, (show (((0 : Int32).toInt = 1 ∧ WdG (fun j => ((fa 8 1) j).toInt) ((iv 8 5) : Int32).toInt (d).toInt ((b).toInt - (a).toInt) (LsW 1 (a).toInt)) ∨ ((0 : Int32).toInt = 0 ∧ ¬ WdG (fun j => ((fa 8 1) j).toInt) ((iv 8 5) : Int32).toInt (d).toInt ((b).toInt - (a).toInt) (LsW 1 (a).toInt))) from (by
                  refine Or.inr ⟨by omega, fun h9 => ?_⟩
                  obtain ⟨-, h8⟩ := h9
                  have h7 : (fa 8 1 ((iv 8 5).toInt.toNat + ((x148_5 : Int32).toInt).toNat)).toInt = ((S_byt.getD 1 []).getD (a.toInt.toNat + ((x148_5 : Int32).toInt).toNat) 0).toInt := h8 ((x148_5 : Int32).toInt).toNat (by omega)
                  have q0 : (v155 : Int32).toInt = (fa 8 1 ((iv 8 5).toInt.toNat + ((x148_5 : Int32).toInt).toNat)).toInt := congrArg Int32.toInt (ev155.trans (congrArg (fa 8 1) (show (v154 : Int32).toNatClampNeg = (iv 8 5).toInt.toNat + ((x148_5 : Int32).toInt).toNat from (by show (v154 : Int32).toInt.toNat = _; omega))))
                  have q1 : (r153 : Int32).toInt = ((S_byt.getD 1 []).getD (a.toInt.toNat + ((x148_5 : Int32).toInt).toNat) 0).toInt := congrArg Int32.toInt (hr153.trans (congrArg (fun z => (S_byt.getD 1 []).getD z 0) (show (v152 : Int32).toNatClampNeg = a.toInt.toNat + ((x148_5 : Int32).toInt).toNat from (by show (v152 : Int32).toInt.toNat = _; omega))))
                  omega))⟩, ht9⟩) (fun q hq => by cases hq) dX8_isSame_50
    have : (0 : Int32).toInt = 0 := (by decide)
    exact lp149 30 0 ⟨by decide, by decide⟩ (show ∀ j : Nat, (j : Int) < (0 : Int32).toInt → (fun j => ((fa 8 1) j).toInt) ((((iv 8 5) : Int32).toInt).toNat + j) = LsW 1 (a).toInt j from (fun j hj => absurd hj (by omega))) (by first | decide | omega) ls (lv_sub hl [0, 1, 2, 3, 4, 5] rfl)
  · have fc3 := z_ne (rfl : (v1).toInt = _) (rfl : (v2).toInt = _) c3
    refine lv_iconst (v := 0) hx hb dX8_isSame_13 (by decide) ?_
    have : (0 : Int32).toInt = 0 := (by decide)
    exact W.zret (v := 0) hx hb hr rfl (fun t ht9 hW => ⟨0, rfl, ⟨⟨by decide, by decide⟩, (show (((0 : Int32).toInt = 1 ∧ WdG (fun j => ((fa 8 1) j).toInt) ((iv 8 5) : Int32).toInt (d).toInt ((b).toInt - (a).toInt) (LsW 1 (a).toInt)) ∨ ((0 : Int32).toInt = 0 ∧ ¬ WdG (fun j => ((fa 8 1) j).toInt) ((iv 8 5) : Int32).toInt (d).toInt ((b).toInt - (a).toInt) (LsW 1 (a).toInt))) from (Or.inr ⟨by omega, fun h9 => (by obtain ⟨h8, -⟩ := h9; omega)⟩))⟩, ht9⟩) (fun q hq => by cases hq) dX8_isSame_14
set_option maxHeartbeats 4000000 in
set_option maxRecDepth 100000 in
/-- X8_isSame -/
theorem c_X8_isSame_g2 (l : Launch) (dC : Nat → ClassId) (dI : Nat → Nat → Nat) (ak av : Nat → Nat) (h : Nat) (g : Nat → Nat → Nat) (ca : Nat → Nat → ClassId) (iv : Nat → Nat → Int32) (lv : Nat → Nat → Int64) (fa : Nat → Nat → Nat → Int32) (la : Nat → Nat → Nat → Int64) (hI : IX iv fa) (a : Int32) (b : Int32) (d : Int32) (h_a : 0 ≤ a.toInt ∧ a.toInt ≤ 18) (h_b : 0 ≤ b.toInt ∧ b.toInt ≤ 17) (h_d : 0 ≤ d.toInt ∧ d.toInt ≤ 200) : Met l yX8_isSame (wc yX8_isSame cX8_isSame 6 (some .boolean)) ({ frames := 4, cells := 0, slots := 0, locals := 85 } : Room) (pRZ ak av (dC, dI) classes (WX h g ca iv lv fa la) (TX ca) [.ref (g 11 4), .ref (ak 2), .int a, .int b, .int d]) (vp_Si (fun r => (0 ≤ r.toInt ∧ r.toInt ≤ 1) ∧ (((r.toInt = 1 ∧ WdG (fun j => ((fa 8 1) j).toInt) (iv 8 5).toInt d.toInt (b.toInt - a.toInt) (LsW 2 a.toInt)) ∨ (r.toInt = 0 ∧ ¬ WdG (fun j => ((fa 8 1) j).toInt) (iv 8 5).toInt d.toInt (b.toInt - a.toInt) (LsW 2 a.toInt)))))) 0 0 (fun _ => False) := by
  refine Met.ofW (cc := cX8_isSame) (maxL := 6) (ret := (some .boolean)) (by decide) rfl ?_
  intro p e s m args below meth c s₁ B hml hv
  obtain ⟨rfl, hP, hK, hZ⟩ := hv
  have hx := B.exec
  have hb := B.bytes
  have hr := B.returns
  have ht := tb_tl (atoms_spec (ws := wc yX8_isSame cX8_isSame 6 (some .boolean)) B.pre)
  have hown : s.vm.findClass RX8 = some m.cls := findClass_of_methodNamed B.named
  have hlocks := B.notSynchronized
  have hl := lv_entry [.ref (g 11 4), .ref (ak 2), .int a, .int b, .int d] (n := 6) (Nat.le_of_ble_eq_true rfl)
  rw [lg_entry_eq]
  generalize (lg_sl [.ref (g 11 4), .ref (ak 2), .int a, .int b, .int d] ++ List.replicate (6 - (lg_sl [.ref (g 11 4), .ref (ak 2), .int a, .int b, .int d]).length) Slot.unset).toArray = ls at hl ⊢
  have hl : lv_has ls 6 [(0, .ref (g 11 4)), (1, .ref (ak 2)), (2, .int a), (3, .int b), (4, .int d)] := hl
  refine lv_iload_n hx hb dX8_isSame_0 rfl (lv_at hl 3 rfl) ?_
  refine lv_iload_n hx hb dX8_isSame_1 rfl (lv_at hl 2 rfl) ?_
  refine lv_isub hx hb dX8_isSame_2 ?_
  refine lv_topi (fun v1 ev1 => ?_)
  have tv1 := z_sub ev1 (rfl : (b).toInt = _) (rfl : (a).toInt = _) (by omega) (by omega)
  refine lv_iload hx hb dX8_isSame_3 (lv_at hl 4 rfl) ?_
  refine lv_aload_n hx hb dX8_isSame_5 rfl (lv_at hl 0 rfl) ?_
  have i_8_5 : 0 ≤ (iv 8 5).toInt ∧ (iv 8 5).toInt ≤ 200 := hI.1 8 5
  refine gX_8_5 hx hb ht hown hK hP m_235 (v := (iv 8 5)) rfl dX8_isSame_6 ?_
  refine lv_isub hx hb dX8_isSame_9 ?_
  refine lv_topi (fun v2 ev2 => ?_)
  have tv2 := z_sub ev2 (rfl : (d).toInt = _) (rfl : ((iv 8 5)).toInt = _) (by omega) (by omega)
  refine lv_icmp_eq (tgt := 15) hx hb dX8_isSame_10 (by decide) (fun c3 => ?_) (fun c3 => ?_)
  · have fc3 := z_eq (rfl : (v1).toInt = _) (rfl : (v2).toInt = _) c3
    refine lv_iconst (v := 0) hx hb dX8_isSame_15 (by decide) ?_
    refine lv_istore (lv' := [(5, .int 0), (0, .ref (g 11 4)), (1, .ref (ak 2)), (2, .int a), (3, .int b), (4, .int d)]) hx hb dX8_isSame_16 hl (by decide) rfl (fun ls hl => ?_)
    have lp140 : ∀ (nn140 : Nat) (x139_5 : Int32), 0 ≤ x139_5.toInt ∧ x139_5.toInt ≤ 19 → (∀ j : Nat, (j : Int) < (x139_5 : Int32).toInt → (fun j => ((fa 8 1) j).toInt) ((((iv 8 5) : Int32).toInt).toNat + j) = LsW 2 (a).toInt j) → 19 - x139_5.toInt < (nn140 : Int) → ∀ (ls : Array Slot), lv_has ls 6 [(5, .int x139_5), (0, .ref (g 11 4)), (1, .ref (ak 2)), (2, .int a), (3, .int b), (4, .int d)] → W p l e ({ frames := 4, cells := 0, slots := 0, locals := 85 } : Room) s m ([.ref (g 11 4), .ref (ak 2), .int a, .int b, .int d] : List Value).toArray below meth c s.heap [] 0 0 (MQ below (vp_Si (fun r => (0 ≤ r.toInt ∧ r.toInt ≤ 1) ∧ (((r.toInt = 1 ∧ WdG (fun j => ((fa 8 1) j).toInt) (iv 8 5).toInt d.toInt (b.toInt - a.toInt) (LsW 2 a.toInt)) ∨ (r.toInt = 0 ∧ ¬ WdG (fun j => ((fa 8 1) j).toInt) (iv 8 5).toInt d.toInt (b.toInt - a.toInt) (LsW 2 a.toInt)))))) ([.ref (g 11 4), .ref (ak 2), .int a, .int b, .int d] : List Value).toArray s 0 0 (fun _ => False)) (F0 m 18 ls []) := by
      intro nn140
      induction nn140 with
      | zero => intro x139_5 hx139_5 hq140_0 hm140; exfalso; omega
      | succ nn140 ih140 =>
        intro x139_5 hx139_5 hq140_0 hm140 ls hl
        refine lv_iload hx hb dX8_isSame_18 (lv_at hl 0 rfl) ?_
        refine lv_iload_n hx hb dX8_isSame_20 rfl (lv_at hl 4 rfl) ?_
        refine lv_iload_n hx hb dX8_isSame_21 rfl (lv_at hl 3 rfl) ?_
        refine lv_isub hx hb dX8_isSame_22 ?_
        refine lv_topi (fun v141 ev141 => ?_)
        obtain rfl : v1 = v141 := ev1.trans ev141.symm
        refine lv_icmp_ge (tgt := 57) hx hb dX8_isSame_23 (by decide) (fun c142 => ?_) (fun c142 => ?_)
        · have fc142 := z_le (rfl : (v1).toInt = _) (rfl : (x139_5).toInt = _) c142
          refine lv_iconst (v := 1) hx hb dX8_isSame_57 (by decide) ?_
          have : (1 : Int32).toInt = 1 := (by decide)
          exact W.zret (v := 1) hx hb hr rfl (fun t ht9 hW => ⟨1, rfl, ⟨⟨by decide, by decide⟩, (show (((1 : Int32).toInt = 1 ∧ WdG (fun j => ((fa 8 1) j).toInt) ((iv 8 5) : Int32).toInt (d).toInt ((b).toInt - (a).toInt) (LsW 2 (a).toInt)) ∨ ((1 : Int32).toInt = 0 ∧ ¬ WdG (fun j => ((fa 8 1) j).toInt) ((iv 8 5) : Int32).toInt (d).toInt ((b).toInt - (a).toInt) (LsW 2 (a).toInt))) from (Or.inl ⟨by omega, by omega, fun j hj => hq140_0 j (by omega)⟩))⟩, ht9⟩) (fun q hq => by cases hq) dX8_isSame_58
        · have fc142 := z_nle (rfl : (v1).toInt = _) (rfl : (x139_5).toInt = _) c142
          refine lv_aload_n hx hb dX8_isSame_26 rfl (lv_at hl 2 rfl) ?_
          refine lv_iload_n hx hb dX8_isSame_27 rfl (lv_at hl 3 rfl) ?_
          refine lv_iload hx hb dX8_isSame_28 (lv_at hl 0 rfl) ?_
          refine lv_iadd hx hb dX8_isSame_30 ?_
          refine lv_topi (fun v143 ev143 => ?_)
          have tv143 := z_add ev143 (rfl : (a).toInt = _) (rfl : (x139_5).toInt = _) (by omega) (by omega)
          have : 0 ≤ (v143 : Int32).toInt ∧ (v143 : Int32).toInt ≤ 17 := ⟨by omega, by omega⟩
          refine vp_callSi (W.runV (As := [.int v143]) (rest := []) ⟨hx, hb, hml, hown, ht⟩ (c_J0_charAt_5068e_2 l dC dI ak av v143 ⟨by omega, by omega⟩) (kV 1 ht m_715 m_716 m_717 m_91 m_718 rfl rfl hd_J0_charAt_5068e_v ⟨Nat.le_of_ble_eq_true rfl, Nat.le_of_ble_eq_true rfl⟩) (vRZ noP (hK.sub (tys' := []) [] rfl) hZ (vk_recv hZ.1.2.2.2.2.2 (i := 2) (by decide) va_S.rf)) rfl rfl hl.1 rfl (lv_room (Nat.le_of_ble_eq_true rfl)) dX8_isSame_31 ⟨Nat.le_of_ble_eq_true rfl, Nat.le_of_ble_eq_true rfl⟩) (fun r144 hr144 => ?_)
          refine lv_aload_n hx hb dX8_isSame_34 rfl (lv_at hl 1 rfl) ?_
          refine gX_8_1 hx hb ht hown hK hP m_229 dX8_isSame_35 ?_
          refine lv_aload_n hx hb dX8_isSame_38 rfl (lv_at hl 1 rfl) ?_
          refine gX_8_5 hx hb ht hown hK hP m_235 (v := (iv 8 5)) rfl dX8_isSame_39 ?_
          refine lv_iload hx hb dX8_isSame_42 (lv_at hl 0 rfl) ?_
          refine lv_iadd hx hb dX8_isSame_44 ?_
          refine lv_topi (fun v145 ev145 => ?_)
          have tv145 := z_add ev145 (rfl : ((iv 8 5)).toInt = _) (rfl : (x139_5).toInt = _) (by omega) (by omega)
          have : 0 ≤ (v145 : Int32).toInt ∧ (v145 : Int32).toInt ≤ 199 := ⟨by omega, by omega⟩
          refine lX_8_1 hx hb hK hP (f := (fa 8 1)) rfl (vp_in_iff.mpr ⟨by omega, by omega⟩) dX8_isSame_45 ?_
          refine lv_topi (fun v146 ev146 => ?_)
          refine lv_icmp_eq (tgt := 51) hx hb dX8_isSame_46 (by decide) (fun c147 => ?_) (fun c147 => ?_)
          · have fc147 := z_eq (rfl : (r144).toInt = _) (rfl : (v146).toInt = _) c147
            obtain ⟨v148, ev148⟩ : ∃ y : Int32, y = x139_5 + 1 := ⟨_, rfl⟩
            have tv148 := z_add ev148 rfl (by decide : (1 : Int32).toInt = 1) (by omega) (by omega)
            refine lv_iinc (v := v148) (lv' := [(5, .int v148), (0, .ref (g 11 4)), (1, .ref (ak 2)), (2, .int a), (3, .int b), (4, .int d)]) hx hb dX8_isSame_51 hl (k := 0) rfl (by rw [ev148]; rfl) (by decide) rfl (fun ls hl => ?_)
            refine lv_goto (tgt := 18) hx hb dX8_isSame_54 (by decide) ?_
            exact ih140 v148 ⟨by omega, by omega⟩ (show ∀ j : Nat, (j : Int) < (v148 : Int32).toInt → (fun j => ((fa 8 1) j).toInt) ((((iv 8 5) : Int32).toInt).toNat + j) = LsW 2 (a).toInt j from (fun j hj => by
                  by_cases hj2 : (j : Int) < (x139_5 : Int32).toInt
                  · exact hq140_0 j hj2
                  · have hj3 : j = ((x139_5 : Int32).toInt).toNat := by omega
                    rw [hj3]
                    have q0 : (v146 : Int32).toInt = (fa 8 1 ((iv 8 5).toInt.toNat + ((x139_5 : Int32).toInt).toNat)).toInt := congrArg Int32.toInt (ev146.trans (congrArg (fa 8 1) (show (v145 : Int32).toNatClampNeg = (iv 8 5).toInt.toNat + ((x139_5 : Int32).toInt).toNat from (by show (v145 : Int32).toInt.toNat = _; omega))))
                    have q1 : (r144 : Int32).toInt = ((S_byt.getD 2 []).getD (a.toInt.toNat + ((x139_5 : Int32).toInt).toNat) 0).toInt := congrArg Int32.toInt (hr144.trans (congrArg (fun z => (S_byt.getD 2 []).getD z 0) (show (v143 : Int32).toNatClampNeg = a.toInt.toNat + ((x139_5 : Int32).toInt).toNat from (by show (v143 : Int32).toInt.toNat = _; omega))))
                    show (fa 8 1 ((iv 8 5).toInt.toNat + ((x139_5 : Int32).toInt).toNat)).toInt = ((S_byt.getD 2 []).getD (a.toInt.toNat + ((x139_5 : Int32).toInt).toNat) 0).toInt
                    omega)) (by omega) ls (lv_sub hl [0, 1, 2, 3, 4, 5] rfl)
          · have fc147 := z_ne (rfl : (r144).toInt = _) (rfl : (v146).toInt = _) c147
            refine lv_iconst (v := 0) hx hb dX8_isSame_49 (by decide) ?_
            have : (0 : Int32).toInt = 0 := (by decide)
            exact W.zret (v := 0) hx hb hr rfl (fun t ht9 hW => ⟨0, rfl, ⟨⟨by decide, by decide⟩, (show (((0 : Int32).toInt = 1 ∧ WdG (fun j => ((fa 8 1) j).toInt) ((iv 8 5) : Int32).toInt (d).toInt ((b).toInt - (a).toInt) (LsW 2 (a).toInt)) ∨ ((0 : Int32).toInt = 0 ∧ ¬ WdG (fun j => ((fa 8 1) j).toInt) ((iv 8 5) : Int32).toInt (d).toInt ((b).toInt - (a).toInt) (LsW 2 (a).toInt))) from (by
                  refine Or.inr ⟨by omega, fun h9 => ?_⟩
                  obtain ⟨-, h8⟩ := h9
                  have h7 : (fa 8 1 ((iv 8 5).toInt.toNat + ((x139_5 : Int32).toInt).toNat)).toInt = ((S_byt.getD 2 []).getD (a.toInt.toNat + ((x139_5 : Int32).toInt).toNat) 0).toInt := h8 ((x139_5 : Int32).toInt).toNat (by omega)
                  have q0 : (v146 : Int32).toInt = (fa 8 1 ((iv 8 5).toInt.toNat + ((x139_5 : Int32).toInt).toNat)).toInt := congrArg Int32.toInt (ev146.trans (congrArg (fa 8 1) (show (v145 : Int32).toNatClampNeg = (iv 8 5).toInt.toNat + ((x139_5 : Int32).toInt).toNat from (by show (v145 : Int32).toInt.toNat = _; omega))))
                  have q1 : (r144 : Int32).toInt = ((S_byt.getD 2 []).getD (a.toInt.toNat + ((x139_5 : Int32).toInt).toNat) 0).toInt := congrArg Int32.toInt (hr144.trans (congrArg (fun z => (S_byt.getD 2 []).getD z 0) (show (v143 : Int32).toNatClampNeg = a.toInt.toNat + ((x139_5 : Int32).toInt).toNat from (by show (v143 : Int32).toInt.toNat = _; omega))))
                  omega))⟩, ht9⟩) (fun q hq => by cases hq) dX8_isSame_50
    have : (0 : Int32).toInt = 0 := (by decide)
    exact lp140 20 0 ⟨by decide, by decide⟩ (show ∀ j : Nat, (j : Int) < (0 : Int32).toInt → (fun j => ((fa 8 1) j).toInt) ((((iv 8 5) : Int32).toInt).toNat + j) = LsW 2 (a).toInt j from (fun j hj => absurd hj (by omega))) (by first | decide | omega) ls (lv_sub hl [0, 1, 2, 3, 4, 5] rfl)
  · have fc3 := z_ne (rfl : (v1).toInt = _) (rfl : (v2).toInt = _) c3
    refine lv_iconst (v := 0) hx hb dX8_isSame_13 (by decide) ?_
    have : (0 : Int32).toInt = 0 := (by decide)
    exact W.zret (v := 0) hx hb hr rfl (fun t ht9 hW => ⟨0, rfl, ⟨⟨by decide, by decide⟩, (show (((0 : Int32).toInt = 1 ∧ WdG (fun j => ((fa 8 1) j).toInt) ((iv 8 5) : Int32).toInt (d).toInt ((b).toInt - (a).toInt) (LsW 2 (a).toInt)) ∨ ((0 : Int32).toInt = 0 ∧ ¬ WdG (fun j => ((fa 8 1) j).toInt) ((iv 8 5) : Int32).toInt (d).toInt ((b).toInt - (a).toInt) (LsW 2 (a).toInt))) from (Or.inr ⟨by omega, fun h9 => (by obtain ⟨h8, -⟩ := h9; omega)⟩))⟩, ht9⟩) (fun q hq => by cases hq) dX8_isSame_14
set_option maxHeartbeats 4000000 in
set_option maxRecDepth 100000 in
/-- X8_isSame -/
theorem c_X8_isSame_g3 (l : Launch) (dC : Nat → ClassId) (dI : Nat → Nat → Nat) (ak av : Nat → Nat) (h : Nat) (g : Nat → Nat → Nat) (ca : Nat → Nat → ClassId) (iv : Nat → Nat → Int32) (lv : Nat → Nat → Int64) (fa : Nat → Nat → Nat → Int32) (la : Nat → Nat → Nat → Int64) (hI : IX iv fa) (a : Int32) (b : Int32) (d : Int32) (h_a : 0 ≤ a.toInt ∧ a.toInt ≤ 3) (h_b : 0 ≤ b.toInt ∧ b.toInt ≤ 2) (h_d : 0 ≤ d.toInt ∧ d.toInt ≤ 200) : Met l yX8_isSame (wc yX8_isSame cX8_isSame 6 (some .boolean)) ({ frames := 4, cells := 0, slots := 0, locals := 85 } : Room) (pRZ ak av (dC, dI) classes (WX h g ca iv lv fa la) (TX ca) [.ref (g 11 4), .ref (ak 3), .int a, .int b, .int d]) (vp_Si (fun r => (0 ≤ r.toInt ∧ r.toInt ≤ 1) ∧ (((r.toInt = 1 ∧ WdG (fun j => ((fa 8 1) j).toInt) (iv 8 5).toInt d.toInt (b.toInt - a.toInt) (LsW 3 a.toInt)) ∨ (r.toInt = 0 ∧ ¬ WdG (fun j => ((fa 8 1) j).toInt) (iv 8 5).toInt d.toInt (b.toInt - a.toInt) (LsW 3 a.toInt)))))) 0 0 (fun _ => False) := by
  refine Met.ofW (cc := cX8_isSame) (maxL := 6) (ret := (some .boolean)) (by decide) rfl ?_
  intro p e s m args below meth c s₁ B hml hv
  obtain ⟨rfl, hP, hK, hZ⟩ := hv
  have hx := B.exec
  have hb := B.bytes
  have hr := B.returns
  have ht := tb_tl (atoms_spec (ws := wc yX8_isSame cX8_isSame 6 (some .boolean)) B.pre)
  have hown : s.vm.findClass RX8 = some m.cls := findClass_of_methodNamed B.named
  have hlocks := B.notSynchronized
  have hl := lv_entry [.ref (g 11 4), .ref (ak 3), .int a, .int b, .int d] (n := 6) (Nat.le_of_ble_eq_true rfl)
  rw [lg_entry_eq]
  generalize (lg_sl [.ref (g 11 4), .ref (ak 3), .int a, .int b, .int d] ++ List.replicate (6 - (lg_sl [.ref (g 11 4), .ref (ak 3), .int a, .int b, .int d]).length) Slot.unset).toArray = ls at hl ⊢
  have hl : lv_has ls 6 [(0, .ref (g 11 4)), (1, .ref (ak 3)), (2, .int a), (3, .int b), (4, .int d)] := hl
  refine lv_iload_n hx hb dX8_isSame_0 rfl (lv_at hl 3 rfl) ?_
  refine lv_iload_n hx hb dX8_isSame_1 rfl (lv_at hl 2 rfl) ?_
  refine lv_isub hx hb dX8_isSame_2 ?_
  refine lv_topi (fun v1 ev1 => ?_)
  have tv1 := z_sub ev1 (rfl : (b).toInt = _) (rfl : (a).toInt = _) (by omega) (by omega)
  refine lv_iload hx hb dX8_isSame_3 (lv_at hl 4 rfl) ?_
  refine lv_aload_n hx hb dX8_isSame_5 rfl (lv_at hl 0 rfl) ?_
  have i_8_5 : 0 ≤ (iv 8 5).toInt ∧ (iv 8 5).toInt ≤ 200 := hI.1 8 5
  refine gX_8_5 hx hb ht hown hK hP m_235 (v := (iv 8 5)) rfl dX8_isSame_6 ?_
  refine lv_isub hx hb dX8_isSame_9 ?_
  refine lv_topi (fun v2 ev2 => ?_)
  have tv2 := z_sub ev2 (rfl : (d).toInt = _) (rfl : ((iv 8 5)).toInt = _) (by omega) (by omega)
  refine lv_icmp_eq (tgt := 15) hx hb dX8_isSame_10 (by decide) (fun c3 => ?_) (fun c3 => ?_)
  · have fc3 := z_eq (rfl : (v1).toInt = _) (rfl : (v2).toInt = _) c3
    refine lv_iconst (v := 0) hx hb dX8_isSame_15 (by decide) ?_
    refine lv_istore (lv' := [(5, .int 0), (0, .ref (g 11 4)), (1, .ref (ak 3)), (2, .int a), (3, .int b), (4, .int d)]) hx hb dX8_isSame_16 hl (by decide) rfl (fun ls hl => ?_)
    have lp32 : ∀ (nn32 : Nat) (x31_5 : Int32), 0 ≤ x31_5.toInt ∧ x31_5.toInt ≤ 2 → (∀ j : Nat, (j : Int) < (x31_5 : Int32).toInt → (fun j => ((fa 8 1) j).toInt) ((((iv 8 5) : Int32).toInt).toNat + j) = LsW 3 (a).toInt j) → 2 - x31_5.toInt < (nn32 : Int) → ∀ (ls : Array Slot), lv_has ls 6 [(5, .int x31_5), (0, .ref (g 11 4)), (1, .ref (ak 3)), (2, .int a), (3, .int b), (4, .int d)] → W p l e ({ frames := 4, cells := 0, slots := 0, locals := 85 } : Room) s m ([.ref (g 11 4), .ref (ak 3), .int a, .int b, .int d] : List Value).toArray below meth c s.heap [] 0 0 (MQ below (vp_Si (fun r => (0 ≤ r.toInt ∧ r.toInt ≤ 1) ∧ (((r.toInt = 1 ∧ WdG (fun j => ((fa 8 1) j).toInt) (iv 8 5).toInt d.toInt (b.toInt - a.toInt) (LsW 3 a.toInt)) ∨ (r.toInt = 0 ∧ ¬ WdG (fun j => ((fa 8 1) j).toInt) (iv 8 5).toInt d.toInt (b.toInt - a.toInt) (LsW 3 a.toInt)))))) ([.ref (g 11 4), .ref (ak 3), .int a, .int b, .int d] : List Value).toArray s 0 0 (fun _ => False)) (F0 m 18 ls []) := by
      intro nn32
      induction nn32 with
      | zero => intro x31_5 hx31_5 hq32_0 hm32; exfalso; omega
      | succ nn32 ih32 =>
        intro x31_5 hx31_5 hq32_0 hm32 ls hl
        refine lv_iload hx hb dX8_isSame_18 (lv_at hl 0 rfl) ?_
        refine lv_iload_n hx hb dX8_isSame_20 rfl (lv_at hl 4 rfl) ?_
        refine lv_iload_n hx hb dX8_isSame_21 rfl (lv_at hl 3 rfl) ?_
        refine lv_isub hx hb dX8_isSame_22 ?_
        refine lv_topi (fun v33 ev33 => ?_)
        obtain rfl : v1 = v33 := ev1.trans ev33.symm
        refine lv_icmp_ge (tgt := 57) hx hb dX8_isSame_23 (by decide) (fun c34 => ?_) (fun c34 => ?_)
        · have fc34 := z_le (rfl : (v1).toInt = _) (rfl : (x31_5).toInt = _) c34
          refine lv_iconst (v := 1) hx hb dX8_isSame_57 (by decide) ?_
          have : (1 : Int32).toInt = 1 := (by decide)
          exact W.zret (v := 1) hx hb hr rfl (fun t ht9 hW => ⟨1, rfl, ⟨⟨by decide, by decide⟩, (show (((1 : Int32).toInt = 1 ∧ WdG (fun j => ((fa 8 1) j).toInt) ((iv 8 5) : Int32).toInt (d).toInt ((b).toInt - (a).toInt) (LsW 3 (a).toInt)) ∨ ((1 : Int32).toInt = 0 ∧ ¬ WdG (fun j => ((fa 8 1) j).toInt) ((iv 8 5) : Int32).toInt (d).toInt ((b).toInt - (a).toInt) (LsW 3 (a).toInt))) from (Or.inl ⟨by omega, by omega, fun j hj => hq32_0 j (by omega)⟩))⟩, ht9⟩) (fun q hq => by cases hq) dX8_isSame_58
        · have fc34 := z_nle (rfl : (v1).toInt = _) (rfl : (x31_5).toInt = _) c34
          refine lv_aload_n hx hb dX8_isSame_26 rfl (lv_at hl 2 rfl) ?_
          refine lv_iload_n hx hb dX8_isSame_27 rfl (lv_at hl 3 rfl) ?_
          refine lv_iload hx hb dX8_isSame_28 (lv_at hl 0 rfl) ?_
          refine lv_iadd hx hb dX8_isSame_30 ?_
          refine lv_topi (fun v35 ev35 => ?_)
          have tv35 := z_add ev35 (rfl : (a).toInt = _) (rfl : (x31_5).toInt = _) (by omega) (by omega)
          have : 0 ≤ (v35 : Int32).toInt ∧ (v35 : Int32).toInt ≤ 2 := ⟨by omega, by omega⟩
          refine vp_callSi (W.runV (As := [.int v35]) (rest := []) ⟨hx, hb, hml, hown, ht⟩ (c_J0_charAt_5068e_3 l dC dI ak av v35 ⟨by omega, by omega⟩) (kV 1 ht m_715 m_716 m_717 m_91 m_718 rfl rfl hd_J0_charAt_5068e_v ⟨Nat.le_of_ble_eq_true rfl, Nat.le_of_ble_eq_true rfl⟩) (vRZ noP (hK.sub (tys' := []) [] rfl) hZ (vk_recv hZ.1.2.2.2.2.2 (i := 3) (by decide) va_S.rf)) rfl rfl hl.1 rfl (lv_room (Nat.le_of_ble_eq_true rfl)) dX8_isSame_31 ⟨Nat.le_of_ble_eq_true rfl, Nat.le_of_ble_eq_true rfl⟩) (fun r36 hr36 => ?_)
          refine lv_aload_n hx hb dX8_isSame_34 rfl (lv_at hl 1 rfl) ?_
          refine gX_8_1 hx hb ht hown hK hP m_229 dX8_isSame_35 ?_
          refine lv_aload_n hx hb dX8_isSame_38 rfl (lv_at hl 1 rfl) ?_
          refine gX_8_5 hx hb ht hown hK hP m_235 (v := (iv 8 5)) rfl dX8_isSame_39 ?_
          refine lv_iload hx hb dX8_isSame_42 (lv_at hl 0 rfl) ?_
          refine lv_iadd hx hb dX8_isSame_44 ?_
          refine lv_topi (fun v37 ev37 => ?_)
          have tv37 := z_add ev37 (rfl : ((iv 8 5)).toInt = _) (rfl : (x31_5).toInt = _) (by omega) (by omega)
          have : 0 ≤ (v37 : Int32).toInt ∧ (v37 : Int32).toInt ≤ 199 := ⟨by omega, by omega⟩
          refine lX_8_1 hx hb hK hP (f := (fa 8 1)) rfl (vp_in_iff.mpr ⟨by omega, by omega⟩) dX8_isSame_45 ?_
          refine lv_topi (fun v38 ev38 => ?_)
          refine lv_icmp_eq (tgt := 51) hx hb dX8_isSame_46 (by decide) (fun c39 => ?_) (fun c39 => ?_)
          · have fc39 := z_eq (rfl : (r36).toInt = _) (rfl : (v38).toInt = _) c39
            obtain ⟨v40, ev40⟩ : ∃ y : Int32, y = x31_5 + 1 := ⟨_, rfl⟩
            have tv40 := z_add ev40 rfl (by decide : (1 : Int32).toInt = 1) (by omega) (by omega)
            refine lv_iinc (v := v40) (lv' := [(5, .int v40), (0, .ref (g 11 4)), (1, .ref (ak 3)), (2, .int a), (3, .int b), (4, .int d)]) hx hb dX8_isSame_51 hl (k := 0) rfl (by rw [ev40]; rfl) (by decide) rfl (fun ls hl => ?_)
            refine lv_goto (tgt := 18) hx hb dX8_isSame_54 (by decide) ?_
            exact ih32 v40 ⟨by omega, by omega⟩ (show ∀ j : Nat, (j : Int) < (v40 : Int32).toInt → (fun j => ((fa 8 1) j).toInt) ((((iv 8 5) : Int32).toInt).toNat + j) = LsW 3 (a).toInt j from (fun j hj => by
                  by_cases hj2 : (j : Int) < (x31_5 : Int32).toInt
                  · exact hq32_0 j hj2
                  · have hj3 : j = ((x31_5 : Int32).toInt).toNat := by omega
                    rw [hj3]
                    have q0 : (v38 : Int32).toInt = (fa 8 1 ((iv 8 5).toInt.toNat + ((x31_5 : Int32).toInt).toNat)).toInt := congrArg Int32.toInt (ev38.trans (congrArg (fa 8 1) (show (v37 : Int32).toNatClampNeg = (iv 8 5).toInt.toNat + ((x31_5 : Int32).toInt).toNat from (by show (v37 : Int32).toInt.toNat = _; omega))))
                    have q1 : (r36 : Int32).toInt = ((S_byt.getD 3 []).getD (a.toInt.toNat + ((x31_5 : Int32).toInt).toNat) 0).toInt := congrArg Int32.toInt (hr36.trans (congrArg (fun z => (S_byt.getD 3 []).getD z 0) (show (v35 : Int32).toNatClampNeg = a.toInt.toNat + ((x31_5 : Int32).toInt).toNat from (by show (v35 : Int32).toInt.toNat = _; omega))))
                    show (fa 8 1 ((iv 8 5).toInt.toNat + ((x31_5 : Int32).toInt).toNat)).toInt = ((S_byt.getD 3 []).getD (a.toInt.toNat + ((x31_5 : Int32).toInt).toNat) 0).toInt
                    omega)) (by omega) ls (lv_sub hl [0, 1, 2, 3, 4, 5] rfl)
          · have fc39 := z_ne (rfl : (r36).toInt = _) (rfl : (v38).toInt = _) c39
            refine lv_iconst (v := 0) hx hb dX8_isSame_49 (by decide) ?_
            have : (0 : Int32).toInt = 0 := (by decide)
            exact W.zret (v := 0) hx hb hr rfl (fun t ht9 hW => ⟨0, rfl, ⟨⟨by decide, by decide⟩, (show (((0 : Int32).toInt = 1 ∧ WdG (fun j => ((fa 8 1) j).toInt) ((iv 8 5) : Int32).toInt (d).toInt ((b).toInt - (a).toInt) (LsW 3 (a).toInt)) ∨ ((0 : Int32).toInt = 0 ∧ ¬ WdG (fun j => ((fa 8 1) j).toInt) ((iv 8 5) : Int32).toInt (d).toInt ((b).toInt - (a).toInt) (LsW 3 (a).toInt))) from (by
                  refine Or.inr ⟨by omega, fun h9 => ?_⟩
                  obtain ⟨-, h8⟩ := h9
                  have h7 : (fa 8 1 ((iv 8 5).toInt.toNat + ((x31_5 : Int32).toInt).toNat)).toInt = ((S_byt.getD 3 []).getD (a.toInt.toNat + ((x31_5 : Int32).toInt).toNat) 0).toInt := h8 ((x31_5 : Int32).toInt).toNat (by omega)
                  have q0 : (v38 : Int32).toInt = (fa 8 1 ((iv 8 5).toInt.toNat + ((x31_5 : Int32).toInt).toNat)).toInt := congrArg Int32.toInt (ev38.trans (congrArg (fa 8 1) (show (v37 : Int32).toNatClampNeg = (iv 8 5).toInt.toNat + ((x31_5 : Int32).toInt).toNat from (by show (v37 : Int32).toInt.toNat = _; omega))))
                  have q1 : (r36 : Int32).toInt = ((S_byt.getD 3 []).getD (a.toInt.toNat + ((x31_5 : Int32).toInt).toNat) 0).toInt := congrArg Int32.toInt (hr36.trans (congrArg (fun z => (S_byt.getD 3 []).getD z 0) (show (v35 : Int32).toNatClampNeg = a.toInt.toNat + ((x31_5 : Int32).toInt).toNat from (by show (v35 : Int32).toInt.toNat = _; omega))))
                  omega))⟩, ht9⟩) (fun q hq => by cases hq) dX8_isSame_50
    have : (0 : Int32).toInt = 0 := (by decide)
    exact lp32 3 0 ⟨by decide, by decide⟩ (show ∀ j : Nat, (j : Int) < (0 : Int32).toInt → (fun j => ((fa 8 1) j).toInt) ((((iv 8 5) : Int32).toInt).toNat + j) = LsW 3 (a).toInt j from (fun j hj => absurd hj (by omega))) (by first | decide | omega) ls (lv_sub hl [0, 1, 2, 3, 4, 5] rfl)
  · have fc3 := z_ne (rfl : (v1).toInt = _) (rfl : (v2).toInt = _) c3
    refine lv_iconst (v := 0) hx hb dX8_isSame_13 (by decide) ?_
    have : (0 : Int32).toInt = 0 := (by decide)
    exact W.zret (v := 0) hx hb hr rfl (fun t ht9 hW => ⟨0, rfl, ⟨⟨by decide, by decide⟩, (show (((0 : Int32).toInt = 1 ∧ WdG (fun j => ((fa 8 1) j).toInt) ((iv 8 5) : Int32).toInt (d).toInt ((b).toInt - (a).toInt) (LsW 3 (a).toInt)) ∨ ((0 : Int32).toInt = 0 ∧ ¬ WdG (fun j => ((fa 8 1) j).toInt) ((iv 8 5) : Int32).toInt (d).toInt ((b).toInt - (a).toInt) (LsW 3 (a).toInt))) from (Or.inr ⟨by omega, fun h9 => (by obtain ⟨h8, -⟩ := h9; omega)⟩))⟩, ht9⟩) (fun q hq => by cases hq) dX8_isSame_14
