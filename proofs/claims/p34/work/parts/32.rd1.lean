/-! ===== rd1 ===== -/
set_option maxHeartbeats 4000000 in
set_option maxRecDepth 100000 in
/-- X8_skipBlanks -/
theorem c_X8_skipBlanks_r (l : Launch) (dC : Nat → ClassId) (dI : Nat → Nat → Nat) (sz : Nat) (h : Nat) (g : Nat → Nat → Nat) (ca : Nat → Nat → ClassId) (iv : Nat → Nat → Int32) (lv : Nat → Nat → Int64) (fa : Nat → Nat → Nat → Int32) (la : Nat → Nat → Nat → Int64) (hI : IX iv fa) : Met l yX8_skipBlanks (wc yX8_skipBlanks cX8_skipBlanks 1 (some .boolean)) ({ frames := 0, cells := 0, slots := 0, locals := 0 } : Room) (pW (dC, dI) classes (WX h g ca iv lv fa la) (TX ca) sz [.ref (g 11 4)]) (va_Qi (fun r (u : SS) => ∃ (ni_8_5 : Int32), inb (bI 8 5) ni_8_5 ∧ (Sk (fun j => ((fa 8 1) j).toInt) (iv 8 2).toInt (iv 8 5).toInt (ni_8_5).toInt) ∧ (((r.toInt = 1 ∧ (ni_8_5).toInt < (iv 8 2).toInt) ∨ (r.toInt = 0 ∧ (iv 8 2).toInt ≤ (ni_8_5).toInt))) ∧ (0 ≤ r.toInt ∧ r.toInt ≤ 1) ∧ u = ((u2 iv 8 5 ni_8_5), lv, fa, la)) (bX (dC, dI) h g ca (va_A (WX h g ca iv lv fa la) sz)) (va_A (WX h g ca iv lv fa la) sz)) 0 0 (va_A (WX h g ca iv lv fa la) sz) := by
  refine Met.ofW (cc := cX8_skipBlanks) (maxL := 1) (ret := (some .boolean)) (by decide) rfl ?_
  intro p e s m args below meth c s₁ B hml hv
  obtain ⟨rfl, hsz, hP, hK, hD0⟩ := hv
  have hx := B.exec
  have hb := B.bytes
  have hr := B.returns
  have ht := tb_tl (atoms_spec (ws := wc yX8_skipBlanks cX8_skipBlanks 1 (some .boolean)) B.pre)
  have hown : s.vm.findClass RX8 = some m.cls := findClass_of_methodNamed B.named
  have hlocks := B.notSynchronized
  subst hsz
  have hD := hD0.self (sz := s.heap.size)
  generalize hAe : va_A (WX h g ca iv lv fa la) s.heap.size = A at hD ⊢
  have hA : ∀ q : Nat, s.heap.size ≤ q → A q := fun q h => by rw [← hAe]; exact Or.inr h
  have hS : va_S A s.heap s.heap [] := va_S.rf
  have hl := lv_entry [.ref (g 11 4)] (n := 1) (Nat.le_of_ble_eq_true rfl)
  rw [lg_entry_eq]
  generalize (lg_sl [.ref (g 11 4)] ++ List.replicate (1 - (lg_sl [.ref (g 11 4)]).length) Slot.unset).toArray = ls at hl ⊢
  have hl : lv_has ls 1 [(0, .ref (g 11 4))] := hl
  have i_8_2 : 0 ≤ (iv 8 2).toInt ∧ (iv 8 2).toInt ≤ 200 := hI.1 8 2
  have lp16 : ∀ (nn16 : Nat) (w15_i_8_5 : Int32), 0 ≤ w15_i_8_5.toInt ∧ w15_i_8_5.toInt ≤ 200 → (iv 8 5).toInt ≤ (w15_i_8_5 : Int32).toInt → (∀ j : Nat, (iv 8 5).toInt ≤ (j : Int) → (j : Int) < (w15_i_8_5 : Int32).toInt → (j : Int) < ((iv 8 2) : Int32).toInt ∧ ((fa 8 1) j).toInt = 32) → 200 - w15_i_8_5.toInt < (nn16 : Int) → ∀ (H : Heap) (locs : List Loc), ∀ (ls : Array Slot), va_P (dC, dI) classes (WX h g ca (u2 iv 8 5 w15_i_8_5) lv fa la) H → va_D A (WX h g ca (u2 iv 8 5 w15_i_8_5) lv fa la) → va_S A s.heap H locs → lv_has ls 1 [(0, .ref (g 11 4))] → W p l e ({ frames := 0, cells := 0, slots := 0, locals := 0 } : Room) s m ([.ref (g 11 4)] : List Value).toArray below meth c H locs 0 0 (MQ below (va_Qi (fun r (u : SS) => ∃ (ni_8_5 : Int32), inb (bI 8 5) ni_8_5 ∧ (Sk (fun j => ((fa 8 1) j).toInt) (iv 8 2).toInt (iv 8 5).toInt (ni_8_5).toInt) ∧ (((r.toInt = 1 ∧ (ni_8_5).toInt < (iv 8 2).toInt) ∨ (r.toInt = 0 ∧ (iv 8 2).toInt ≤ (ni_8_5).toInt))) ∧ (0 ≤ r.toInt ∧ r.toInt ≤ 1) ∧ u = ((u2 iv 8 5 ni_8_5), lv, fa, la)) (bX (dC, dI) h g ca A) A) ([.ref (g 11 4)] : List Value).toArray s 0 0 A) (F0 m 0 ls []) := by
    intro nn16
    induction nn16 with
    | zero => intro w15_i_8_5 hw15_i_8_5 hq16_0 hq16_1 hm16; exfalso; omega
    | succ nn16 ih16 =>
      intro w15_i_8_5 hw15_i_8_5 hq16_0 hq16_1 hm16 H locs ls hP hD hS hl
      refine lv_aload_n hx hb dX8_skipBlanks_0 rfl (lv_at hl 0 rfl) ?_
      refine gX_8_5 hx hb ht hown hK hP m_235 (v := w15_i_8_5) rfl dX8_skipBlanks_1 ?_
      refine lv_aload_n hx hb dX8_skipBlanks_4 rfl (lv_at hl 0 rfl) ?_
      refine gX_8_2 hx hb ht hown hK hP m_230 (v := (iv 8 2)) rfl dX8_skipBlanks_5 ?_
      refine lv_icmp_ge (tgt := 38) hx hb dX8_skipBlanks_8 (by decide) (fun c17 => ?_) (fun c17 => ?_)
      · have fc17 := z_le (rfl : ((iv 8 2)).toInt = _) (rfl : (w15_i_8_5).toInt = _) c17
        refine lv_aload_n hx hb dX8_skipBlanks_38 rfl (lv_at hl 0 rfl) ?_
        refine gX_8_5 hx hb ht hown hK hP m_235 (v := w15_i_8_5) rfl dX8_skipBlanks_39 ?_
        refine lv_aload_n hx hb dX8_skipBlanks_42 rfl (lv_at hl 0 rfl) ?_
        refine gX_8_2 hx hb ht hown hK hP m_230 (v := (iv 8 2)) rfl dX8_skipBlanks_43 ?_
        refine lv_icmp_ge (tgt := 53) hx hb dX8_skipBlanks_46 (by decide) (fun c18 => ?_) (fun c18 => ?_)
        · have fc18 := z_le (rfl : ((iv 8 2)).toInt = _) (rfl : (w15_i_8_5).toInt = _) c18
          refine lv_iconst (v := 0) hx hb dX8_skipBlanks_53 (by decide) ?_
          have : (0 : Int32).toInt = 0 := (by decide)
          have hP9 : va_P (dC, dI) classes (WX h g ca (u2 iv 8 5 w15_i_8_5) lv fa la) H := hP
          have hD9 : va_D A (WX h g ca (u2 iv 8 5 w15_i_8_5) lv fa la) := hD
          exact W.zret (v := 0) hx hb hr rfl (fun t ht9 hW => ⟨⟨0, ((u2 iv 8 5 w15_i_8_5), lv, fa, la), rfl, ⟨w15_i_8_5, (show inb (0, 200) w15_i_8_5 from ⟨by omega, by omega⟩), (show Sk (fun j => ((fa 8 1) j).toInt) ((iv 8 2) : Int32).toInt (iv 8 5).toInt (w15_i_8_5 : Int32).toInt from ⟨by omega, hq16_1, fun q => by omega⟩), (show (((0 : Int32).toInt = 1 ∧ (w15_i_8_5 : Int32).toInt < ((iv 8 2) : Int32).toInt) ∨ ((0 : Int32).toInt = 0 ∧ ((iv 8 2) : Int32).toInt ≤ (w15_i_8_5 : Int32).toInt)) from by omega), ⟨by decide, by decide⟩, rfl⟩, by rw [ht9]; exact hP9, hD9⟩, hS.F ht9⟩) hS.2.2 dX8_skipBlanks_54
        · have fc18 := z_nle (rfl : ((iv 8 2)).toInt = _) (rfl : (w15_i_8_5).toInt = _) c18
          refine lv_iconst (v := 1) hx hb dX8_skipBlanks_49 (by decide) ?_
          refine lv_goto (tgt := 54) hx hb dX8_skipBlanks_50 (by decide) ?_
          have : (1 : Int32).toInt = 1 := (by decide)
          have hP9 : va_P (dC, dI) classes (WX h g ca (u2 iv 8 5 w15_i_8_5) lv fa la) H := hP
          have hD9 : va_D A (WX h g ca (u2 iv 8 5 w15_i_8_5) lv fa la) := hD
          exact W.zret (v := 1) hx hb hr rfl (fun t ht9 hW => ⟨⟨1, ((u2 iv 8 5 w15_i_8_5), lv, fa, la), rfl, ⟨w15_i_8_5, (show inb (0, 200) w15_i_8_5 from ⟨by omega, by omega⟩), (show Sk (fun j => ((fa 8 1) j).toInt) ((iv 8 2) : Int32).toInt (iv 8 5).toInt (w15_i_8_5 : Int32).toInt from ⟨by omega, hq16_1, fun q => by omega⟩), (show (((1 : Int32).toInt = 1 ∧ (w15_i_8_5 : Int32).toInt < ((iv 8 2) : Int32).toInt) ∨ ((1 : Int32).toInt = 0 ∧ ((iv 8 2) : Int32).toInt ≤ (w15_i_8_5 : Int32).toInt)) from by omega), ⟨by decide, by decide⟩, rfl⟩, by rw [ht9]; exact hP9, hD9⟩, hS.F ht9⟩) hS.2.2 dX8_skipBlanks_54
      · have fc17 := z_nle (rfl : ((iv 8 2)).toInt = _) (rfl : (w15_i_8_5).toInt = _) c17
        refine lv_aload_n hx hb dX8_skipBlanks_11 rfl (lv_at hl 0 rfl) ?_
        refine gX_8_1 hx hb ht hown hK hP m_229 dX8_skipBlanks_12 ?_
        refine lv_aload_n hx hb dX8_skipBlanks_15 rfl (lv_at hl 0 rfl) ?_
        refine gX_8_5 hx hb ht hown hK hP m_235 (v := w15_i_8_5) rfl dX8_skipBlanks_16 ?_
        refine lX_8_1 hx hb hK hP (f := (fa 8 1)) rfl (vp_in_iff.mpr ⟨by omega, by omega⟩) dX8_skipBlanks_19 ?_
        refine lv_topi (fun v19 ev19 => ?_)
        refine lv_bipush (v := 32) hx hb dX8_skipBlanks_20 (by decide) ?_
        refine lv_icmp_ne (tgt := 38) hx hb dX8_skipBlanks_22 (by decide) (fun c20 => ?_) (fun c20 => ?_)
        · have fc20 := z_ne (rfl : (v19).toInt = _) (by decide : (32 : Int32).toInt = 32) c20
          refine lv_aload_n hx hb dX8_skipBlanks_38 rfl (lv_at hl 0 rfl) ?_
          refine gX_8_5 hx hb ht hown hK hP m_235 (v := w15_i_8_5) rfl dX8_skipBlanks_39 ?_
          refine lv_aload_n hx hb dX8_skipBlanks_42 rfl (lv_at hl 0 rfl) ?_
          refine gX_8_2 hx hb ht hown hK hP m_230 (v := (iv 8 2)) rfl dX8_skipBlanks_43 ?_
          refine lv_icmp_ge (tgt := 53) hx hb dX8_skipBlanks_46 (by decide) (fun c21 => ?_) (fun c21 => ?_)
          · have fc21 := z_le (rfl : ((iv 8 2)).toInt = _) (rfl : (w15_i_8_5).toInt = _) c21
            refine lv_iconst (v := 0) hx hb dX8_skipBlanks_53 (by decide) ?_
            have : (0 : Int32).toInt = 0 := (by decide)
            have hP9 : va_P (dC, dI) classes (WX h g ca (u2 iv 8 5 w15_i_8_5) lv fa la) H := hP
            have hD9 : va_D A (WX h g ca (u2 iv 8 5 w15_i_8_5) lv fa la) := hD
            exact W.zret (v := 0) hx hb hr rfl (fun t ht9 hW => ⟨⟨0, ((u2 iv 8 5 w15_i_8_5), lv, fa, la), rfl, ⟨w15_i_8_5, (show inb (0, 200) w15_i_8_5 from ⟨by omega, by omega⟩), (show Sk (fun j => ((fa 8 1) j).toInt) ((iv 8 2) : Int32).toInt (iv 8 5).toInt (w15_i_8_5 : Int32).toInt from ⟨by omega, hq16_1, fun q => by have q2 : (fa 8 1 ((w15_i_8_5 : Int32).toInt).toNat).toInt = 32 := q.2; have hv9 := congrArg Int32.toInt (show v19 = (fa 8 1) ((w15_i_8_5 : Int32).toInt).toNat from ev19); omega⟩), (show (((0 : Int32).toInt = 1 ∧ (w15_i_8_5 : Int32).toInt < ((iv 8 2) : Int32).toInt) ∨ ((0 : Int32).toInt = 0 ∧ ((iv 8 2) : Int32).toInt ≤ (w15_i_8_5 : Int32).toInt)) from by omega), ⟨by decide, by decide⟩, rfl⟩, by rw [ht9]; exact hP9, hD9⟩, hS.F ht9⟩) hS.2.2 dX8_skipBlanks_54
          · have fc21 := z_nle (rfl : ((iv 8 2)).toInt = _) (rfl : (w15_i_8_5).toInt = _) c21
            refine lv_iconst (v := 1) hx hb dX8_skipBlanks_49 (by decide) ?_
            refine lv_goto (tgt := 54) hx hb dX8_skipBlanks_50 (by decide) ?_
            have : (1 : Int32).toInt = 1 := (by decide)
            have hP9 : va_P (dC, dI) classes (WX h g ca (u2 iv 8 5 w15_i_8_5) lv fa la) H := hP
            have hD9 : va_D A (WX h g ca (u2 iv 8 5 w15_i_8_5) lv fa la) := hD
            exact W.zret (v := 1) hx hb hr rfl (fun t ht9 hW => ⟨⟨1, ((u2 iv 8 5 w15_i_8_5), lv, fa, la), rfl, ⟨w15_i_8_5, (show inb (0, 200) w15_i_8_5 from ⟨by omega, by omega⟩), (show Sk (fun j => ((fa 8 1) j).toInt) ((iv 8 2) : Int32).toInt (iv 8 5).toInt (w15_i_8_5 : Int32).toInt from ⟨by omega, hq16_1, fun q => by have q2 : (fa 8 1 ((w15_i_8_5 : Int32).toInt).toNat).toInt = 32 := q.2; have hv9 := congrArg Int32.toInt (show v19 = (fa 8 1) ((w15_i_8_5 : Int32).toInt).toNat from ev19); omega⟩), (show (((1 : Int32).toInt = 1 ∧ (w15_i_8_5 : Int32).toInt < ((iv 8 2) : Int32).toInt) ∨ ((1 : Int32).toInt = 0 ∧ ((iv 8 2) : Int32).toInt ≤ (w15_i_8_5 : Int32).toInt)) from by omega), ⟨by decide, by decide⟩, rfl⟩, by rw [ht9]; exact hP9, hD9⟩, hS.F ht9⟩) hS.2.2 dX8_skipBlanks_54
        · have fc20 := z_eq (rfl : (v19).toInt = _) (by decide : (32 : Int32).toInt = 32) c20
          refine lv_aload_n hx hb dX8_skipBlanks_25 rfl (lv_at hl 0 rfl) ?_
          refine lv_dup hx hb dX8_skipBlanks_26 rfl ?_
          refine gX_8_5 hx hb ht hown hK hP m_235 (v := w15_i_8_5) rfl dX8_skipBlanks_27 ?_
          refine lv_iconst (v := 1) hx hb dX8_skipBlanks_30 (by decide) ?_
          refine lv_iadd hx hb dX8_skipBlanks_31 ?_
          refine lv_topi (fun v22 ev22 => ?_)
          have tv22 := z_add ev22 (rfl : (w15_i_8_5).toInt = _) (by decide : (1 : Int32).toInt = 1) (by omega) (by omega)
          refine pX_8_5 (v := v22) hx hb ht hown hK hP hD hS m_235 dX8_skipBlanks_32 (fun H locs hP hD hS => ?_)
          have hP : va_P (dC, dI) classes (WX h g ca (u2 iv 8 5 v22) lv fa la) H := hP
          have hD : va_D A (WX h g ca (u2 iv 8 5 v22) lv fa la) := hD
          refine lv_goto (tgt := 0) hx hb dX8_skipBlanks_35 (by decide) ?_
          exact ih16 v22 ⟨by omega, by omega⟩ (show (iv 8 5).toInt ≤ (v22 : Int32).toInt from by omega) (show ∀ j : Nat, (iv 8 5).toInt ≤ (j : Int) → (j : Int) < (v22 : Int32).toInt → (j : Int) < ((iv 8 2) : Int32).toInt ∧ ((fa 8 1) j).toInt = 32 from (fun j h1 h2 => by
                by_cases hj : (j : Int) < (w15_i_8_5 : Int32).toInt
                · exact hq16_1 j h1 hj
                · have hj2 : j = ((w15_i_8_5 : Int32).toInt).toNat := by omega
                  have hv9 := congrArg Int32.toInt (show v19 = (fa 8 1) ((w15_i_8_5 : Int32).toInt).toNat from ev19)
                  rw [hj2]
                  exact ⟨by omega, by omega⟩)) (by omega) _ _ ls hP hD hS (lv_sub hl [0] rfl)
  have i_8_5 : 0 ≤ (iv 8 5).toInt ∧ (iv 8 5).toInt ≤ 200 := hI.1 8 5
  have i_8_2 : 0 ≤ (iv 8 2).toInt ∧ (iv 8 2).toInt ≤ 200 := hI.1 8 2
  exact lp16 201 (iv 8 5) ⟨by omega, by omega⟩ (show (iv 8 5).toInt ≤ ((iv 8 5) : Int32).toInt from by omega) (show ∀ j : Nat, (iv 8 5).toInt ≤ (j : Int) → (j : Int) < ((iv 8 5) : Int32).toInt → (j : Int) < ((iv 8 2) : Int32).toInt ∧ ((fa 8 1) j).toInt = 32 from fun j h1 h2 => absurd h1 (by omega)) (by first | decide | omega) _ _ ls hP hD hS (lv_sub hl [0] rfl)
set_option maxHeartbeats 4000000 in
set_option maxRecDepth 100000 in
/-- X8_endOfRun -/
theorem c_X8_endOfRun_r97 (l : Launch) (dC : Nat → ClassId) (dI : Nat → Nat → Nat) (h : Nat) (g : Nat → Nat → Nat) (ca : Nat → Nat → ClassId) (iv : Nat → Nat → Int32) (lv : Nat → Nat → Int64) (fa : Nat → Nat → Nat → Int32) (la : Nat → Nat → Nat → Int64) (hI : IX iv fa) : Met l yX8_endOfRun (wc yX8_endOfRun cX8_endOfRun 4 (some .int)) ({ frames := 0, cells := 0, slots := 0, locals := 0 } : Room) (pR (dC, dI) classes (WX h g ca iv lv fa la) (TX ca) [.ref (g 11 4), .int 97, .int 122]) (vp_Si (fun r => (0 ≤ r.toInt ∧ r.toInt ≤ 200) ∧ (Rn (fun j => ((fa 8 1) j).toInt) (iv 8 2).toInt 97 122 (iv 8 5).toInt r.toInt) ∧ ((iv 8 5).toInt ≤ r.toInt))) 0 0 (fun _ => False) := by
  refine Met.ofW (cc := cX8_endOfRun) (maxL := 4) (ret := (some .int)) (by decide) rfl ?_
  intro p e s m args below meth c s₁ B hml hv
  obtain ⟨rfl, hP, hK⟩ := hv
  have hx := B.exec
  have hb := B.bytes
  have hr := B.returns
  have ht := tb_tl (atoms_spec (ws := wc yX8_endOfRun cX8_endOfRun 4 (some .int)) B.pre)
  have hown : s.vm.findClass RX8 = some m.cls := findClass_of_methodNamed B.named
  have hlocks := B.notSynchronized
  have hl := lv_entry [.ref (g 11 4), .int 97, .int 122] (n := 4) (Nat.le_of_ble_eq_true rfl)
  rw [lg_entry_eq]
  generalize (lg_sl [.ref (g 11 4), .int 97, .int 122] ++ List.replicate (4 - (lg_sl [.ref (g 11 4), .int 97, .int 122]).length) Slot.unset).toArray = ls at hl ⊢
  have hl : lv_has ls 4 [(0, .ref (g 11 4)), (1, .int 97), (2, .int 122)] := hl
  refine lv_aload_n hx hb dX8_endOfRun_0 rfl (lv_at hl 0 rfl) ?_
  have i_8_5 : 0 ≤ (iv 8 5).toInt ∧ (iv 8 5).toInt ≤ 200 := hI.1 8 5
  refine gX_8_5 hx hb ht hown hK hP m_235 (v := (iv 8 5)) rfl dX8_endOfRun_1 ?_
  refine lv_istore_n (lv' := [(3, .int (iv 8 5)), (0, .ref (g 11 4)), (1, .int 97), (2, .int 122)]) hx hb dX8_endOfRun_4 rfl hl (by decide) rfl (fun ls hl => ?_)
  have i_8_2 : 0 ≤ (iv 8 2).toInt ∧ (iv 8 2).toInt ≤ 200 := hI.1 8 2
  have lp9 : ∀ (nn9 : Nat) (x8_3 : Int32), 0 ≤ x8_3.toInt ∧ x8_3.toInt ≤ 200 → ((iv 8 5) : Int32).toInt ≤ (x8_3 : Int32).toInt → (∀ j : Nat, ((iv 8 5) : Int32).toInt ≤ (j : Int) → (j : Int) < (x8_3 : Int32).toInt → (j : Int) < ((iv 8 2) : Int32).toInt ∧ 97 ≤ ((fa 8 1) j).toInt ∧ ((fa 8 1) j).toInt ≤ 122) → 200 - x8_3.toInt < (nn9 : Int) → ∀ (ls : Array Slot), lv_has ls 4 [(3, .int x8_3), (0, .ref (g 11 4)), (1, .int 97), (2, .int 122)] → W p l e ({ frames := 0, cells := 0, slots := 0, locals := 0 } : Room) s m ([.ref (g 11 4), .int 97, .int 122] : List Value).toArray below meth c s.heap [] 0 0 (MQ below (vp_Si (fun r => (0 ≤ r.toInt ∧ r.toInt ≤ 200) ∧ (Rn (fun j => ((fa 8 1) j).toInt) (iv 8 2).toInt 97 122 (iv 8 5).toInt r.toInt) ∧ ((iv 8 5).toInt ≤ r.toInt))) ([.ref (g 11 4), .int 97, .int 122] : List Value).toArray s 0 0 (fun _ => False)) (F0 m 5 ls []) := by
    intro nn9
    induction nn9 with
    | zero => intro x8_3 hx8_3 hq9_0 hq9_1 hm9; exfalso; omega
    | succ nn9 ih9 =>
      intro x8_3 hx8_3 hq9_0 hq9_1 hm9 ls hl
      refine lv_iload_n hx hb dX8_endOfRun_5 rfl (lv_at hl 0 rfl) ?_
      refine lv_aload_n hx hb dX8_endOfRun_6 rfl (lv_at hl 1 rfl) ?_
      refine gX_8_2 hx hb ht hown hK hP m_230 (v := (iv 8 2)) rfl dX8_endOfRun_7 ?_
      refine lv_icmp_ge (tgt := 39) hx hb dX8_endOfRun_10 (by decide) (fun c10 => ?_) (fun c10 => ?_)
      · have fc10 := z_le (rfl : ((iv 8 2)).toInt = _) (rfl : (x8_3).toInt = _) c10
        refine lv_iload_n hx hb dX8_endOfRun_39 rfl (lv_at hl 0 rfl) ?_
        exact W.iret (v := x8_3) hx hb hr (fun t ht9 hW => ⟨x8_3, rfl, ⟨⟨by omega, by omega⟩, (show Rn (fun j => ((fa 8 1) j).toInt) ((iv 8 2) : Int32).toInt 97 122 ((iv 8 5) : Int32).toInt (x8_3 : Int32).toInt from ⟨by omega, hq9_1, fun q => by omega⟩), (show ((iv 8 5) : Int32).toInt ≤ (x8_3 : Int32).toInt from by omega)⟩, ht9⟩) (fun q hq => by cases hq) dX8_endOfRun_40
      · have fc10 := z_nle (rfl : ((iv 8 2)).toInt = _) (rfl : (x8_3).toInt = _) c10
        refine lv_aload_n hx hb dX8_endOfRun_13 rfl (lv_at hl 1 rfl) ?_
        refine gX_8_1 hx hb ht hown hK hP m_229 dX8_endOfRun_14 ?_
        refine lv_iload_n hx hb dX8_endOfRun_17 rfl (lv_at hl 0 rfl) ?_
        refine lX_8_1 hx hb hK hP (f := (fa 8 1)) rfl (vp_in_iff.mpr ⟨by omega, by omega⟩) dX8_endOfRun_18 ?_
        refine lv_topi (fun v11 ev11 => ?_)
        refine lv_iload_n hx hb dX8_endOfRun_19 rfl (lv_at hl 2 rfl) ?_
        refine lv_icmp_lt (tgt := 39) hx hb dX8_endOfRun_20 (by decide) (fun c12 => ?_) (fun c12 => ?_)
        · have fc12 := z_lt (rfl : (v11).toInt = _) (by decide : (97 : Int32).toInt = 97) c12
          refine lv_iload_n hx hb dX8_endOfRun_39 rfl (lv_at hl 0 rfl) ?_
          exact W.iret (v := x8_3) hx hb hr (fun t ht9 hW => ⟨x8_3, rfl, ⟨⟨by omega, by omega⟩, (show Rn (fun j => ((fa 8 1) j).toInt) ((iv 8 2) : Int32).toInt 97 122 ((iv 8 5) : Int32).toInt (x8_3 : Int32).toInt from ⟨by omega, hq9_1, fun q => by have q2 : 97 ≤ (fa 8 1 ((x8_3 : Int32).toInt).toNat).toInt ∧ (fa 8 1 ((x8_3 : Int32).toInt).toNat).toInt ≤ 122 := q.2; have hv9 := congrArg Int32.toInt (show v11 = (fa 8 1) ((x8_3 : Int32).toInt).toNat from ev11); omega⟩), (show ((iv 8 5) : Int32).toInt ≤ (x8_3 : Int32).toInt from by omega)⟩, ht9⟩) (fun q hq => by cases hq) dX8_endOfRun_40
        · have fc12 := z_nlt (rfl : (v11).toInt = _) (by decide : (97 : Int32).toInt = 97) c12
          refine lv_aload_n hx hb dX8_endOfRun_23 rfl (lv_at hl 1 rfl) ?_
          refine gX_8_1 hx hb ht hown hK hP m_229 dX8_endOfRun_24 ?_
          refine lv_iload_n hx hb dX8_endOfRun_27 rfl (lv_at hl 0 rfl) ?_
          refine lX_8_1 hx hb hK hP (f := (fa 8 1)) rfl (vp_in_iff.mpr ⟨by omega, by omega⟩) dX8_endOfRun_28 ?_
          refine lv_topi (fun v13 ev13 => ?_)
          obtain rfl : v11 = v13 := ev11.trans ev13.symm
          refine lv_iload_n hx hb dX8_endOfRun_29 rfl (lv_at hl 3 rfl) ?_
          refine lv_icmp_gt (tgt := 39) hx hb dX8_endOfRun_30 (by decide) (fun c14 => ?_) (fun c14 => ?_)
          · have fc14 := z_lt (by decide : (122 : Int32).toInt = 122) (rfl : (v11).toInt = _) c14
            refine lv_iload_n hx hb dX8_endOfRun_39 rfl (lv_at hl 0 rfl) ?_
            exact W.iret (v := x8_3) hx hb hr (fun t ht9 hW => ⟨x8_3, rfl, ⟨⟨by omega, by omega⟩, (show Rn (fun j => ((fa 8 1) j).toInt) ((iv 8 2) : Int32).toInt 97 122 ((iv 8 5) : Int32).toInt (x8_3 : Int32).toInt from ⟨by omega, hq9_1, fun q => by have q2 : 97 ≤ (fa 8 1 ((x8_3 : Int32).toInt).toNat).toInt ∧ (fa 8 1 ((x8_3 : Int32).toInt).toNat).toInt ≤ 122 := q.2; have hv9 := congrArg Int32.toInt (show v11 = (fa 8 1) ((x8_3 : Int32).toInt).toNat from ev11); omega⟩), (show ((iv 8 5) : Int32).toInt ≤ (x8_3 : Int32).toInt from by omega)⟩, ht9⟩) (fun q hq => by cases hq) dX8_endOfRun_40
          · have fc14 := z_nlt (by decide : (122 : Int32).toInt = 122) (rfl : (v11).toInt = _) c14
            obtain ⟨v15, ev15⟩ : ∃ y : Int32, y = x8_3 + 1 := ⟨_, rfl⟩
            have tv15 := z_add ev15 rfl (by decide : (1 : Int32).toInt = 1) (by omega) (by omega)
            refine lv_iinc (v := v15) (lv' := [(3, .int v15), (0, .ref (g 11 4)), (1, .int 97), (2, .int 122)]) hx hb dX8_endOfRun_33 hl (k := 0) rfl (by rw [ev15]; rfl) (by decide) rfl (fun ls hl => ?_)
            refine lv_goto (tgt := 5) hx hb dX8_endOfRun_36 (by decide) ?_
            exact ih9 v15 ⟨by omega, by omega⟩ (show ((iv 8 5) : Int32).toInt ≤ (v15 : Int32).toInt from by omega) (show ∀ j : Nat, ((iv 8 5) : Int32).toInt ≤ (j : Int) → (j : Int) < (v15 : Int32).toInt → (j : Int) < ((iv 8 2) : Int32).toInt ∧ 97 ≤ ((fa 8 1) j).toInt ∧ ((fa 8 1) j).toInt ≤ 122 from (fun j h1 h2 => by
                  by_cases hj : (j : Int) < (x8_3 : Int32).toInt
                  · exact hq9_1 j h1 hj
                  · have hj2 : j = ((x8_3 : Int32).toInt).toNat := by omega
                    have hv9 := congrArg Int32.toInt (show v11 = (fa 8 1) ((x8_3 : Int32).toInt).toNat from ev11)
                    rw [hj2]
                    exact ⟨by omega, by omega, by omega⟩)) (by omega) ls (lv_sub hl [0, 1, 2, 3] rfl)
  have i_8_2 : 0 ≤ (iv 8 2).toInt ∧ (iv 8 2).toInt ≤ 200 := hI.1 8 2
  exact lp9 201 (iv 8 5) ⟨by omega, by omega⟩ (show ((iv 8 5) : Int32).toInt ≤ ((iv 8 5) : Int32).toInt from by omega) (show ∀ j : Nat, ((iv 8 5) : Int32).toInt ≤ (j : Int) → (j : Int) < ((iv 8 5) : Int32).toInt → (j : Int) < ((iv 8 2) : Int32).toInt ∧ 97 ≤ ((fa 8 1) j).toInt ∧ ((fa 8 1) j).toInt ≤ 122 from fun j h1 h2 => absurd h1 (by omega)) (by first | decide | omega) ls (lv_sub hl [0, 1, 2, 3] rfl)
set_option maxHeartbeats 4000000 in
set_option maxRecDepth 100000 in
/-- X8_endOfRun -/
theorem c_X8_endOfRun_r48 (l : Launch) (dC : Nat → ClassId) (dI : Nat → Nat → Nat) (h : Nat) (g : Nat → Nat → Nat) (ca : Nat → Nat → ClassId) (iv : Nat → Nat → Int32) (lv : Nat → Nat → Int64) (fa : Nat → Nat → Nat → Int32) (la : Nat → Nat → Nat → Int64) (hI : IX iv fa) : Met l yX8_endOfRun (wc yX8_endOfRun cX8_endOfRun 4 (some .int)) ({ frames := 0, cells := 0, slots := 0, locals := 0 } : Room) (pR (dC, dI) classes (WX h g ca iv lv fa la) (TX ca) [.ref (g 11 4), .int 48, .int 57]) (vp_Si (fun r => (0 ≤ r.toInt ∧ r.toInt ≤ 200) ∧ (Rn (fun j => ((fa 8 1) j).toInt) (iv 8 2).toInt 48 57 (iv 8 5).toInt r.toInt) ∧ ((iv 8 5).toInt ≤ r.toInt))) 0 0 (fun _ => False) := by
  refine Met.ofW (cc := cX8_endOfRun) (maxL := 4) (ret := (some .int)) (by decide) rfl ?_
  intro p e s m args below meth c s₁ B hml hv
  obtain ⟨rfl, hP, hK⟩ := hv
  have hx := B.exec
  have hb := B.bytes
  have hr := B.returns
  have ht := tb_tl (atoms_spec (ws := wc yX8_endOfRun cX8_endOfRun 4 (some .int)) B.pre)
  have hown : s.vm.findClass RX8 = some m.cls := findClass_of_methodNamed B.named
  have hlocks := B.notSynchronized
  have hl := lv_entry [.ref (g 11 4), .int 48, .int 57] (n := 4) (Nat.le_of_ble_eq_true rfl)
  rw [lg_entry_eq]
  generalize (lg_sl [.ref (g 11 4), .int 48, .int 57] ++ List.replicate (4 - (lg_sl [.ref (g 11 4), .int 48, .int 57]).length) Slot.unset).toArray = ls at hl ⊢
  have hl : lv_has ls 4 [(0, .ref (g 11 4)), (1, .int 48), (2, .int 57)] := hl
  refine lv_aload_n hx hb dX8_endOfRun_0 rfl (lv_at hl 0 rfl) ?_
  have i_8_5 : 0 ≤ (iv 8 5).toInt ∧ (iv 8 5).toInt ≤ 200 := hI.1 8 5
  refine gX_8_5 hx hb ht hown hK hP m_235 (v := (iv 8 5)) rfl dX8_endOfRun_1 ?_
  refine lv_istore_n (lv' := [(3, .int (iv 8 5)), (0, .ref (g 11 4)), (1, .int 48), (2, .int 57)]) hx hb dX8_endOfRun_4 rfl hl (by decide) rfl (fun ls hl => ?_)
  have i_8_2 : 0 ≤ (iv 8 2).toInt ∧ (iv 8 2).toInt ≤ 200 := hI.1 8 2
  have lp9 : ∀ (nn9 : Nat) (x8_3 : Int32), 0 ≤ x8_3.toInt ∧ x8_3.toInt ≤ 200 → ((iv 8 5) : Int32).toInt ≤ (x8_3 : Int32).toInt → (∀ j : Nat, ((iv 8 5) : Int32).toInt ≤ (j : Int) → (j : Int) < (x8_3 : Int32).toInt → (j : Int) < ((iv 8 2) : Int32).toInt ∧ 48 ≤ ((fa 8 1) j).toInt ∧ ((fa 8 1) j).toInt ≤ 57) → 200 - x8_3.toInt < (nn9 : Int) → ∀ (ls : Array Slot), lv_has ls 4 [(3, .int x8_3), (0, .ref (g 11 4)), (1, .int 48), (2, .int 57)] → W p l e ({ frames := 0, cells := 0, slots := 0, locals := 0 } : Room) s m ([.ref (g 11 4), .int 48, .int 57] : List Value).toArray below meth c s.heap [] 0 0 (MQ below (vp_Si (fun r => (0 ≤ r.toInt ∧ r.toInt ≤ 200) ∧ (Rn (fun j => ((fa 8 1) j).toInt) (iv 8 2).toInt 48 57 (iv 8 5).toInt r.toInt) ∧ ((iv 8 5).toInt ≤ r.toInt))) ([.ref (g 11 4), .int 48, .int 57] : List Value).toArray s 0 0 (fun _ => False)) (F0 m 5 ls []) := by
    intro nn9
    induction nn9 with
    | zero => intro x8_3 hx8_3 hq9_0 hq9_1 hm9; exfalso; omega
    | succ nn9 ih9 =>
      intro x8_3 hx8_3 hq9_0 hq9_1 hm9 ls hl
      refine lv_iload_n hx hb dX8_endOfRun_5 rfl (lv_at hl 0 rfl) ?_
      refine lv_aload_n hx hb dX8_endOfRun_6 rfl (lv_at hl 1 rfl) ?_
      refine gX_8_2 hx hb ht hown hK hP m_230 (v := (iv 8 2)) rfl dX8_endOfRun_7 ?_
      refine lv_icmp_ge (tgt := 39) hx hb dX8_endOfRun_10 (by decide) (fun c10 => ?_) (fun c10 => ?_)
      · have fc10 := z_le (rfl : ((iv 8 2)).toInt = _) (rfl : (x8_3).toInt = _) c10
        refine lv_iload_n hx hb dX8_endOfRun_39 rfl (lv_at hl 0 rfl) ?_
        exact W.iret (v := x8_3) hx hb hr (fun t ht9 hW => ⟨x8_3, rfl, ⟨⟨by omega, by omega⟩, (show Rn (fun j => ((fa 8 1) j).toInt) ((iv 8 2) : Int32).toInt 48 57 ((iv 8 5) : Int32).toInt (x8_3 : Int32).toInt from ⟨by omega, hq9_1, fun q => by omega⟩), (show ((iv 8 5) : Int32).toInt ≤ (x8_3 : Int32).toInt from by omega)⟩, ht9⟩) (fun q hq => by cases hq) dX8_endOfRun_40
      · have fc10 := z_nle (rfl : ((iv 8 2)).toInt = _) (rfl : (x8_3).toInt = _) c10
        refine lv_aload_n hx hb dX8_endOfRun_13 rfl (lv_at hl 1 rfl) ?_
        refine gX_8_1 hx hb ht hown hK hP m_229 dX8_endOfRun_14 ?_
        refine lv_iload_n hx hb dX8_endOfRun_17 rfl (lv_at hl 0 rfl) ?_
        refine lX_8_1 hx hb hK hP (f := (fa 8 1)) rfl (vp_in_iff.mpr ⟨by omega, by omega⟩) dX8_endOfRun_18 ?_
        refine lv_topi (fun v11 ev11 => ?_)
        refine lv_iload_n hx hb dX8_endOfRun_19 rfl (lv_at hl 2 rfl) ?_
        refine lv_icmp_lt (tgt := 39) hx hb dX8_endOfRun_20 (by decide) (fun c12 => ?_) (fun c12 => ?_)
        · have fc12 := z_lt (rfl : (v11).toInt = _) (by decide : (48 : Int32).toInt = 48) c12
          refine lv_iload_n hx hb dX8_endOfRun_39 rfl (lv_at hl 0 rfl) ?_
          exact W.iret (v := x8_3) hx hb hr (fun t ht9 hW => ⟨x8_3, rfl, ⟨⟨by omega, by omega⟩, (show Rn (fun j => ((fa 8 1) j).toInt) ((iv 8 2) : Int32).toInt 48 57 ((iv 8 5) : Int32).toInt (x8_3 : Int32).toInt from ⟨by omega, hq9_1, fun q => by have q2 : 48 ≤ (fa 8 1 ((x8_3 : Int32).toInt).toNat).toInt ∧ (fa 8 1 ((x8_3 : Int32).toInt).toNat).toInt ≤ 57 := q.2; have hv9 := congrArg Int32.toInt (show v11 = (fa 8 1) ((x8_3 : Int32).toInt).toNat from ev11); omega⟩), (show ((iv 8 5) : Int32).toInt ≤ (x8_3 : Int32).toInt from by omega)⟩, ht9⟩) (fun q hq => by cases hq) dX8_endOfRun_40
        · have fc12 := z_nlt (rfl : (v11).toInt = _) (by decide : (48 : Int32).toInt = 48) c12
          refine lv_aload_n hx hb dX8_endOfRun_23 rfl (lv_at hl 1 rfl) ?_
          refine gX_8_1 hx hb ht hown hK hP m_229 dX8_endOfRun_24 ?_
          refine lv_iload_n hx hb dX8_endOfRun_27 rfl (lv_at hl 0 rfl) ?_
          refine lX_8_1 hx hb hK hP (f := (fa 8 1)) rfl (vp_in_iff.mpr ⟨by omega, by omega⟩) dX8_endOfRun_28 ?_
          refine lv_topi (fun v13 ev13 => ?_)
          obtain rfl : v11 = v13 := ev11.trans ev13.symm
          refine lv_iload_n hx hb dX8_endOfRun_29 rfl (lv_at hl 3 rfl) ?_
          refine lv_icmp_gt (tgt := 39) hx hb dX8_endOfRun_30 (by decide) (fun c14 => ?_) (fun c14 => ?_)
          · have fc14 := z_lt (by decide : (57 : Int32).toInt = 57) (rfl : (v11).toInt = _) c14
            refine lv_iload_n hx hb dX8_endOfRun_39 rfl (lv_at hl 0 rfl) ?_
            exact W.iret (v := x8_3) hx hb hr (fun t ht9 hW => ⟨x8_3, rfl, ⟨⟨by omega, by omega⟩, (show Rn (fun j => ((fa 8 1) j).toInt) ((iv 8 2) : Int32).toInt 48 57 ((iv 8 5) : Int32).toInt (x8_3 : Int32).toInt from ⟨by omega, hq9_1, fun q => by have q2 : 48 ≤ (fa 8 1 ((x8_3 : Int32).toInt).toNat).toInt ∧ (fa 8 1 ((x8_3 : Int32).toInt).toNat).toInt ≤ 57 := q.2; have hv9 := congrArg Int32.toInt (show v11 = (fa 8 1) ((x8_3 : Int32).toInt).toNat from ev11); omega⟩), (show ((iv 8 5) : Int32).toInt ≤ (x8_3 : Int32).toInt from by omega)⟩, ht9⟩) (fun q hq => by cases hq) dX8_endOfRun_40
          · have fc14 := z_nlt (by decide : (57 : Int32).toInt = 57) (rfl : (v11).toInt = _) c14
            obtain ⟨v15, ev15⟩ : ∃ y : Int32, y = x8_3 + 1 := ⟨_, rfl⟩
            have tv15 := z_add ev15 rfl (by decide : (1 : Int32).toInt = 1) (by omega) (by omega)
            refine lv_iinc (v := v15) (lv' := [(3, .int v15), (0, .ref (g 11 4)), (1, .int 48), (2, .int 57)]) hx hb dX8_endOfRun_33 hl (k := 0) rfl (by rw [ev15]; rfl) (by decide) rfl (fun ls hl => ?_)
            refine lv_goto (tgt := 5) hx hb dX8_endOfRun_36 (by decide) ?_
            exact ih9 v15 ⟨by omega, by omega⟩ (show ((iv 8 5) : Int32).toInt ≤ (v15 : Int32).toInt from by omega) (show ∀ j : Nat, ((iv 8 5) : Int32).toInt ≤ (j : Int) → (j : Int) < (v15 : Int32).toInt → (j : Int) < ((iv 8 2) : Int32).toInt ∧ 48 ≤ ((fa 8 1) j).toInt ∧ ((fa 8 1) j).toInt ≤ 57 from (fun j h1 h2 => by
                  by_cases hj : (j : Int) < (x8_3 : Int32).toInt
                  · exact hq9_1 j h1 hj
                  · have hj2 : j = ((x8_3 : Int32).toInt).toNat := by omega
                    have hv9 := congrArg Int32.toInt (show v11 = (fa 8 1) ((x8_3 : Int32).toInt).toNat from ev11)
                    rw [hj2]
                    exact ⟨by omega, by omega, by omega⟩)) (by omega) ls (lv_sub hl [0, 1, 2, 3] rfl)
  have i_8_2 : 0 ≤ (iv 8 2).toInt ∧ (iv 8 2).toInt ≤ 200 := hI.1 8 2
  exact lp9 201 (iv 8 5) ⟨by omega, by omega⟩ (show ((iv 8 5) : Int32).toInt ≤ ((iv 8 5) : Int32).toInt from by omega) (show ∀ j : Nat, ((iv 8 5) : Int32).toInt ≤ (j : Int) → (j : Int) < ((iv 8 5) : Int32).toInt → (j : Int) < ((iv 8 2) : Int32).toInt ∧ 48 ≤ ((fa 8 1) j).toInt ∧ ((fa 8 1) j).toInt ≤ 57 from fun j h1 h2 => absurd h1 (by omega)) (by first | decide | omega) ls (lv_sub hl [0, 1, 2, 3] rfl)
set_option maxHeartbeats 4000000 in
set_option maxRecDepth 100000 in
/-- X8_fail -/
theorem c_X8_fail_r (l : Launch) (dC : Nat → ClassId) (dI : Nat → Nat → Nat) (sz : Nat) (h : Nat) (g : Nat → Nat → Nat) (ca : Nat → Nat → ClassId) (iv : Nat → Nat → Int32) (lv : Nat → Nat → Int64) (fa : Nat → Nat → Nat → Int32) (la : Nat → Nat → Nat → Int64) (hI : IX iv fa) (a : Int32) (b : Int32) (h_a : 0 ≤ a.toInt ∧ a.toInt ≤ 5) (h_b : (-1) ≤ b.toInt ∧ b.toInt ≤ 200) : Met l yX8_fail (wc yX8_fail cX8_fail 3 (some .boolean)) ({ frames := 0, cells := 0, slots := 0, locals := 0 } : Room) (pW (dC, dI) classes (WX h g ca iv lv fa la) (TX ca) sz [.ref (g 11 4), .int a, .int b]) (va_Qi (fun r (u : SS) => ∃ (ni_8_3 : Int32) (ni_8_4 : Int32), inb (bI 8 3) ni_8_3 ∧ inb (bI 8 4) ni_8_4 ∧ ((ni_8_4).toInt = a.toInt) ∧ ((ni_8_3).toInt = b.toInt) ∧ (0 ≤ r.toInt ∧ r.toInt ≤ 0) ∧ u = ((u2 (u2 iv 8 3 ni_8_3) 8 4 ni_8_4), lv, fa, la)) (bX (dC, dI) h g ca (va_A (WX h g ca iv lv fa la) sz)) (va_A (WX h g ca iv lv fa la) sz)) 0 0 (va_A (WX h g ca iv lv fa la) sz) := by
  refine Met.ofW (cc := cX8_fail) (maxL := 3) (ret := (some .boolean)) (by decide) rfl ?_
  intro p e s m args below meth c s₁ B hml hv
  obtain ⟨rfl, hsz, hP, hK, hD0⟩ := hv
  have hx := B.exec
  have hb := B.bytes
  have hr := B.returns
  have ht := tb_tl (atoms_spec (ws := wc yX8_fail cX8_fail 3 (some .boolean)) B.pre)
  have hown : s.vm.findClass RX8 = some m.cls := findClass_of_methodNamed B.named
  have hlocks := B.notSynchronized
  subst hsz
  have hD := hD0.self (sz := s.heap.size)
  generalize hAe : va_A (WX h g ca iv lv fa la) s.heap.size = A at hD ⊢
  have hA : ∀ q : Nat, s.heap.size ≤ q → A q := fun q h => by rw [← hAe]; exact Or.inr h
  have hS : va_S A s.heap s.heap [] := va_S.rf
  have hl := lv_entry [.ref (g 11 4), .int a, .int b] (n := 3) (Nat.le_of_ble_eq_true rfl)
  rw [lg_entry_eq]
  generalize (lg_sl [.ref (g 11 4), .int a, .int b] ++ List.replicate (3 - (lg_sl [.ref (g 11 4), .int a, .int b]).length) Slot.unset).toArray = ls at hl ⊢
  have hl : lv_has ls 3 [(0, .ref (g 11 4)), (1, .int a), (2, .int b)] := hl
  refine lv_aload_n hx hb dX8_fail_0 rfl (lv_at hl 0 rfl) ?_
  refine lv_iload_n hx hb dX8_fail_1 rfl (lv_at hl 1 rfl) ?_
  refine pX_8_4 (v := a) hx hb ht hown hK hP hD hS m_234 dX8_fail_2 (fun H locs hP hD hS => ?_)
  refine lv_aload_n hx hb dX8_fail_5 rfl (lv_at hl 0 rfl) ?_
  refine lv_iload_n hx hb dX8_fail_6 rfl (lv_at hl 2 rfl) ?_
  refine pX_8_3 (v := b) hx hb ht hown hK hP hD hS m_232 dX8_fail_7 (fun H locs hP hD hS => ?_)
  refine lv_iconst (v := 0) hx hb dX8_fail_10 (by decide) ?_
  have hP9 : va_P (dC, dI) classes (WX h g ca (u2 (u2 iv 8 3 b) 8 4 a) lv fa la) H := hP
  have hD9 : va_D A (WX h g ca (u2 (u2 iv 8 3 b) 8 4 a) lv fa la) := hD
  exact W.zret (v := 0) hx hb hr rfl (fun t ht9 hW => ⟨⟨0, ((u2 (u2 iv 8 3 b) 8 4 a), lv, fa, la), rfl, ⟨b, a, (show inb ((-1), 200) b from ⟨by omega, by omega⟩), (show inb (0, 5) a from ⟨by omega, by omega⟩), (show (a : Int32).toInt = (a).toInt from by omega), (show (b : Int32).toInt = (b).toInt from by omega), ⟨by decide, by decide⟩, rfl⟩, by rw [ht9]; exact hP9, hD9⟩, hS.F ht9⟩) hS.2.2 dX8_fail_11
set_option maxHeartbeats 4000000 in
set_option maxRecDepth 100000 in
/-- X8_isSame -/
theorem c_X8_isSame_r0_0 (l : Launch) (dC : Nat → ClassId) (dI : Nat → Nat → Nat) (ak av : Nat → Nat) (h : Nat) (g : Nat → Nat → Nat) (ca : Nat → Nat → ClassId) (iv : Nat → Nat → Int32) (lv : Nat → Nat → Int64) (fa : Nat → Nat → Nat → Int32) (la : Nat → Nat → Nat → Int64) (hI : IX iv fa) (d : Int32) (h_d : 0 ≤ d.toInt ∧ d.toInt ≤ 200) : Met l yX8_isSame (wc yX8_isSame cX8_isSame 6 (some .boolean)) ({ frames := 4, cells := 0, slots := 0, locals := 85 } : Room) (pRZ ak av (dC, dI) classes (WX h g ca iv lv fa la) (TX ca) [.ref (g 11 4), .ref (ak 0), .int 0, .int 3, .int d]) (vp_Si (fun r => (0 ≤ r.toInt ∧ r.toInt ≤ 1) ∧ (((r.toInt = 1 ∧ w_let (fun j => ((fa 8 1) j).toInt) (iv 8 5).toInt d.toInt) ∨ (r.toInt = 0 ∧ ¬ w_let (fun j => ((fa 8 1) j).toInt) (iv 8 5).toInt d.toInt))))) 0 0 (fun _ => False) := by
  refine Met.ofW (cc := cX8_isSame) (maxL := 6) (ret := (some .boolean)) (by decide) rfl ?_
  intro p e s m args below meth c s₁ B hml hv
  obtain ⟨rfl, hP, hK, hZ⟩ := hv
  have hx := B.exec
  have hb := B.bytes
  have hr := B.returns
  have ht := tb_tl (atoms_spec (ws := wc yX8_isSame cX8_isSame 6 (some .boolean)) B.pre)
  have hown : s.vm.findClass RX8 = some m.cls := findClass_of_methodNamed B.named
  have hlocks := B.notSynchronized
  have hl := lv_entry [.ref (g 11 4), .ref (ak 0), .int 0, .int 3, .int d] (n := 6) (Nat.le_of_ble_eq_true rfl)
  rw [lg_entry_eq]
  generalize (lg_sl [.ref (g 11 4), .ref (ak 0), .int 0, .int 3, .int d] ++ List.replicate (6 - (lg_sl [.ref (g 11 4), .ref (ak 0), .int 0, .int 3, .int d]).length) Slot.unset).toArray = ls at hl ⊢
  have hl : lv_has ls 6 [(0, .ref (g 11 4)), (1, .ref (ak 0)), (2, .int 0), (3, .int 3), (4, .int d)] := hl
  refine lv_iload_n hx hb dX8_isSame_0 rfl (lv_at hl 3 rfl) ?_
  refine lv_iload_n hx hb dX8_isSame_1 rfl (lv_at hl 2 rfl) ?_
  refine lv_isub hx hb dX8_isSame_2 ?_
  refine lv_topi (fun v1 ev1 => ?_)
  obtain rfl : 3 = v1 := (ev1.trans (by decide)).symm
  refine lv_iload hx hb dX8_isSame_3 (lv_at hl 4 rfl) ?_
  refine lv_aload_n hx hb dX8_isSame_5 rfl (lv_at hl 0 rfl) ?_
  have i_8_5 : 0 ≤ (iv 8 5).toInt ∧ (iv 8 5).toInt ≤ 200 := hI.1 8 5
  refine gX_8_5 hx hb ht hown hK hP m_235 (v := (iv 8 5)) rfl dX8_isSame_6 ?_
  refine lv_isub hx hb dX8_isSame_9 ?_
  refine lv_topi (fun v2 ev2 => ?_)
  have tv2 := z_sub ev2 (rfl : (d).toInt = _) (rfl : ((iv 8 5)).toInt = _) (by omega) (by omega)
  refine lv_icmp_eq (tgt := 15) hx hb dX8_isSame_10 (by decide) (fun c3 => ?_) (fun c3 => ?_)
  · have fc3 := z_eq (by decide : (3 : Int32).toInt = 3) (rfl : (v2).toInt = _) c3
    refine lv_iconst (v := 0) hx hb dX8_isSame_15 (by decide) ?_
    refine lv_istore (lv' := [(5, .int 0), (0, .ref (g 11 4)), (1, .ref (ak 0)), (2, .int 0), (3, .int 3), (4, .int d)]) hx hb dX8_isSame_16 hl (by decide) rfl (fun ls hl => ?_)
    refine lv_iload hx hb dX8_isSame_18 (lv_at hl 0 rfl) ?_
    refine lv_iload_n hx hb dX8_isSame_20 rfl (lv_at hl 4 rfl) ?_
    refine lv_iload_n hx hb dX8_isSame_21 rfl (lv_at hl 3 rfl) ?_
    refine lv_isub hx hb dX8_isSame_22 ?_
    refine lv_topi (fun v4 ev4 => ?_)
    obtain rfl : 3 = v4 := (ev4.trans (by decide)).symm
    refine lv_icmp_ge (tgt := 57) hx hb dX8_isSame_23 (by decide) (fun c5 => ?_) (fun c5 => ?_)
    · exact absurd c5 (by decide)
    · skip
      refine lv_aload_n hx hb dX8_isSame_26 rfl (lv_at hl 2 rfl) ?_
      refine lv_iload_n hx hb dX8_isSame_27 rfl (lv_at hl 3 rfl) ?_
      refine lv_iload hx hb dX8_isSame_28 (lv_at hl 0 rfl) ?_
      refine lv_iadd hx hb dX8_isSame_30 ?_
      refine lv_topi (fun v6 ev6 => ?_)
      obtain rfl : 0 = v6 := (ev6.trans (by decide)).symm
      refine vp_callSi (W.runV (As := [.int 0]) (rest := []) ⟨hx, hb, hml, hown, ht⟩ (c_J0_charAt_5068e_0 l dC dI ak av 0 ⟨by decide, by decide⟩) (kV 1 ht m_715 m_716 m_717 m_91 m_718 rfl rfl hd_J0_charAt_5068e_v ⟨Nat.le_of_ble_eq_true rfl, Nat.le_of_ble_eq_true rfl⟩) (vRZ noP (hK.sub (tys' := []) [] rfl) hZ (vk_recv hZ.1.2.2.2.2.2 (i := 0) (by decide) va_S.rf)) rfl rfl hl.1 rfl (lv_room (Nat.le_of_ble_eq_true rfl)) dX8_isSame_31 ⟨Nat.le_of_ble_eq_true rfl, Nat.le_of_ble_eq_true rfl⟩) (fun r7 hr7 => ?_)
      obtain rfl : 108 = r7 := (hr7.trans (by decide)).symm
      refine lv_aload_n hx hb dX8_isSame_34 rfl (lv_at hl 1 rfl) ?_
      refine gX_8_1 hx hb ht hown hK hP m_229 dX8_isSame_35 ?_
      refine lv_aload_n hx hb dX8_isSame_38 rfl (lv_at hl 1 rfl) ?_
      refine gX_8_5 hx hb ht hown hK hP m_235 (v := (iv 8 5)) rfl dX8_isSame_39 ?_
      refine lv_iload hx hb dX8_isSame_42 (lv_at hl 0 rfl) ?_
      refine lv_iadd hx hb dX8_isSame_44 ?_
      refine lv_topi (fun v8 ev8 => ?_)
      have tv8 := z_add ev8 (rfl : ((iv 8 5)).toInt = _) (by decide : (0 : Int32).toInt = 0) (by omega) (by omega)
      have : 0 ≤ (v8 : Int32).toInt ∧ (v8 : Int32).toInt ≤ 199 := ⟨by omega, by omega⟩
      refine lX_8_1 hx hb hK hP (f := (fa 8 1)) rfl (vp_in_iff.mpr ⟨by omega, by omega⟩) dX8_isSame_45 ?_
      refine lv_topi (fun v9 ev9 => ?_)
      refine lv_icmp_eq (tgt := 51) hx hb dX8_isSame_46 (by decide) (fun c10 => ?_) (fun c10 => ?_)
      · have fc10 := z_eq (by decide : (108 : Int32).toInt = 108) (rfl : (v9).toInt = _) c10
        refine lv_iinc (v := 1) (lv' := [(5, .int 1), (0, .ref (g 11 4)), (1, .ref (ak 0)), (2, .int 0), (3, .int 3), (4, .int d)]) hx hb dX8_isSame_51 hl (k := 0) rfl (by decide) (by decide) rfl (fun ls hl => ?_)
        refine lv_goto (tgt := 18) hx hb dX8_isSame_54 (by decide) ?_
        refine lv_iload hx hb dX8_isSame_18 (lv_at hl 0 rfl) ?_
        refine lv_iload_n hx hb dX8_isSame_20 rfl (lv_at hl 4 rfl) ?_
        refine lv_iload_n hx hb dX8_isSame_21 rfl (lv_at hl 3 rfl) ?_
        refine lv_isub hx hb dX8_isSame_22 ?_
        refine lv_topi (fun v11 ev11 => ?_)
        obtain rfl : 3 = v11 := (ev11.trans (by decide)).symm
        refine lv_icmp_ge (tgt := 57) hx hb dX8_isSame_23 (by decide) (fun c12 => ?_) (fun c12 => ?_)
        · exact absurd c12 (by decide)
        · skip
          refine lv_aload_n hx hb dX8_isSame_26 rfl (lv_at hl 2 rfl) ?_
          refine lv_iload_n hx hb dX8_isSame_27 rfl (lv_at hl 3 rfl) ?_
          refine lv_iload hx hb dX8_isSame_28 (lv_at hl 0 rfl) ?_
          refine lv_iadd hx hb dX8_isSame_30 ?_
          refine lv_topi (fun v13 ev13 => ?_)
          obtain rfl : 1 = v13 := (ev13.trans (by decide)).symm
          refine vp_callSi (W.runV (As := [.int 1]) (rest := []) ⟨hx, hb, hml, hown, ht⟩ (c_J0_charAt_5068e_0 l dC dI ak av 1 ⟨by decide, by decide⟩) (kV 1 ht m_715 m_716 m_717 m_91 m_718 rfl rfl hd_J0_charAt_5068e_v ⟨Nat.le_of_ble_eq_true rfl, Nat.le_of_ble_eq_true rfl⟩) (vRZ noP (hK.sub (tys' := []) [] rfl) hZ (vk_recv hZ.1.2.2.2.2.2 (i := 0) (by decide) va_S.rf)) rfl rfl hl.1 rfl (lv_room (Nat.le_of_ble_eq_true rfl)) dX8_isSame_31 ⟨Nat.le_of_ble_eq_true rfl, Nat.le_of_ble_eq_true rfl⟩) (fun r14 hr14 => ?_)
          obtain rfl : 101 = r14 := (hr14.trans (by decide)).symm
          refine lv_aload_n hx hb dX8_isSame_34 rfl (lv_at hl 1 rfl) ?_
          refine gX_8_1 hx hb ht hown hK hP m_229 dX8_isSame_35 ?_
          refine lv_aload_n hx hb dX8_isSame_38 rfl (lv_at hl 1 rfl) ?_
          refine gX_8_5 hx hb ht hown hK hP m_235 (v := (iv 8 5)) rfl dX8_isSame_39 ?_
          refine lv_iload hx hb dX8_isSame_42 (lv_at hl 0 rfl) ?_
          refine lv_iadd hx hb dX8_isSame_44 ?_
          refine lv_topi (fun v15 ev15 => ?_)
          have tv15 := z_add ev15 (rfl : ((iv 8 5)).toInt = _) (by decide : (1 : Int32).toInt = 1) (by omega) (by omega)
          have : 0 ≤ (v15 : Int32).toInt ∧ (v15 : Int32).toInt ≤ 199 := ⟨by omega, by omega⟩
          refine lX_8_1 hx hb hK hP (f := (fa 8 1)) rfl (vp_in_iff.mpr ⟨by omega, by omega⟩) dX8_isSame_45 ?_
          refine lv_topi (fun v16 ev16 => ?_)
          refine lv_icmp_eq (tgt := 51) hx hb dX8_isSame_46 (by decide) (fun c17 => ?_) (fun c17 => ?_)
          · have fc17 := z_eq (by decide : (101 : Int32).toInt = 101) (rfl : (v16).toInt = _) c17
            refine lv_iinc (v := 2) (lv' := [(5, .int 2), (0, .ref (g 11 4)), (1, .ref (ak 0)), (2, .int 0), (3, .int 3), (4, .int d)]) hx hb dX8_isSame_51 hl (k := 0) rfl (by decide) (by decide) rfl (fun ls hl => ?_)
            refine lv_goto (tgt := 18) hx hb dX8_isSame_54 (by decide) ?_
            refine lv_iload hx hb dX8_isSame_18 (lv_at hl 0 rfl) ?_
            refine lv_iload_n hx hb dX8_isSame_20 rfl (lv_at hl 4 rfl) ?_
            refine lv_iload_n hx hb dX8_isSame_21 rfl (lv_at hl 3 rfl) ?_
            refine lv_isub hx hb dX8_isSame_22 ?_
            refine lv_topi (fun v18 ev18 => ?_)
            obtain rfl : 3 = v18 := (ev18.trans (by decide)).symm
            refine lv_icmp_ge (tgt := 57) hx hb dX8_isSame_23 (by decide) (fun c19 => ?_) (fun c19 => ?_)
            · exact absurd c19 (by decide)
            · skip
              refine lv_aload_n hx hb dX8_isSame_26 rfl (lv_at hl 2 rfl) ?_
              refine lv_iload_n hx hb dX8_isSame_27 rfl (lv_at hl 3 rfl) ?_
              refine lv_iload hx hb dX8_isSame_28 (lv_at hl 0 rfl) ?_
              refine lv_iadd hx hb dX8_isSame_30 ?_
              refine lv_topi (fun v20 ev20 => ?_)
              obtain rfl : 2 = v20 := (ev20.trans (by decide)).symm
              refine vp_callSi (W.runV (As := [.int 2]) (rest := []) ⟨hx, hb, hml, hown, ht⟩ (c_J0_charAt_5068e_0 l dC dI ak av 2 ⟨by decide, by decide⟩) (kV 1 ht m_715 m_716 m_717 m_91 m_718 rfl rfl hd_J0_charAt_5068e_v ⟨Nat.le_of_ble_eq_true rfl, Nat.le_of_ble_eq_true rfl⟩) (vRZ noP (hK.sub (tys' := []) [] rfl) hZ (vk_recv hZ.1.2.2.2.2.2 (i := 0) (by decide) va_S.rf)) rfl rfl hl.1 rfl (lv_room (Nat.le_of_ble_eq_true rfl)) dX8_isSame_31 ⟨Nat.le_of_ble_eq_true rfl, Nat.le_of_ble_eq_true rfl⟩) (fun r21 hr21 => ?_)
              obtain rfl : 116 = r21 := (hr21.trans (by decide)).symm
              refine lv_aload_n hx hb dX8_isSame_34 rfl (lv_at hl 1 rfl) ?_
              refine gX_8_1 hx hb ht hown hK hP m_229 dX8_isSame_35 ?_
              refine lv_aload_n hx hb dX8_isSame_38 rfl (lv_at hl 1 rfl) ?_
              refine gX_8_5 hx hb ht hown hK hP m_235 (v := (iv 8 5)) rfl dX8_isSame_39 ?_
              refine lv_iload hx hb dX8_isSame_42 (lv_at hl 0 rfl) ?_
              refine lv_iadd hx hb dX8_isSame_44 ?_
              refine lv_topi (fun v22 ev22 => ?_)
              have tv22 := z_add ev22 (rfl : ((iv 8 5)).toInt = _) (by decide : (2 : Int32).toInt = 2) (by omega) (by omega)
              have : 0 ≤ (v22 : Int32).toInt ∧ (v22 : Int32).toInt ≤ 199 := ⟨by omega, by omega⟩
              refine lX_8_1 hx hb hK hP (f := (fa 8 1)) rfl (vp_in_iff.mpr ⟨by omega, by omega⟩) dX8_isSame_45 ?_
              refine lv_topi (fun v23 ev23 => ?_)
              refine lv_icmp_eq (tgt := 51) hx hb dX8_isSame_46 (by decide) (fun c24 => ?_) (fun c24 => ?_)
              · have fc24 := z_eq (by decide : (116 : Int32).toInt = 116) (rfl : (v23).toInt = _) c24
                refine lv_iinc (v := 3) (lv' := [(5, .int 3), (0, .ref (g 11 4)), (1, .ref (ak 0)), (2, .int 0), (3, .int 3), (4, .int d)]) hx hb dX8_isSame_51 hl (k := 0) rfl (by decide) (by decide) rfl (fun ls hl => ?_)
                refine lv_goto (tgt := 18) hx hb dX8_isSame_54 (by decide) ?_
                refine lv_iload hx hb dX8_isSame_18 (lv_at hl 0 rfl) ?_
                refine lv_iload_n hx hb dX8_isSame_20 rfl (lv_at hl 4 rfl) ?_
                refine lv_iload_n hx hb dX8_isSame_21 rfl (lv_at hl 3 rfl) ?_
                refine lv_isub hx hb dX8_isSame_22 ?_
                refine lv_topi (fun v25 ev25 => ?_)
                obtain rfl : 3 = v25 := (ev25.trans (by decide)).symm
                refine lv_icmp_ge (tgt := 57) hx hb dX8_isSame_23 (by decide) (fun c26 => ?_) (fun c26 => ?_)
                · skip
                  refine lv_iconst (v := 1) hx hb dX8_isSame_57 (by decide) ?_
                  have : (1 : Int32).toInt = 1 := (by decide)
                  exact W.zret (v := 1) hx hb hr rfl (fun t ht9 hW => ⟨1, rfl, ⟨⟨by decide, by decide⟩, (show (((1 : Int32).toInt = 1 ∧ w_let (fun j => ((fa 8 1) j).toInt) ((iv 8 5) : Int32).toInt (d).toInt) ∨ ((1 : Int32).toInt = 0 ∧ ¬ w_let (fun j => ((fa 8 1) j).toInt) ((iv 8 5) : Int32).toInt (d).toInt)) from (by have q0 := congrArg Int32.toInt (ev9.trans (congrArg (fa 8 1) (show (v8 : Int32).toNatClampNeg = ((iv 8 5).toInt).toNat + 0 from (by show (v8 : Int32).toInt.toNat = _; omega)))); have q1 := congrArg Int32.toInt (ev16.trans (congrArg (fa 8 1) (show (v15 : Int32).toNatClampNeg = ((iv 8 5).toInt).toNat + 1 from (by show (v15 : Int32).toInt.toNat = _; omega)))); have q2 := congrArg Int32.toInt (ev23.trans (congrArg (fa 8 1) (show (v22 : Int32).toNatClampNeg = ((iv 8 5).toInt).toNat + 2 from (by show (v22 : Int32).toInt.toNat = _; omega)))); exact Or.inl ⟨by omega, (show d.toInt - (iv 8 5).toInt = 3 ∧ (fa 8 1 (((iv 8 5).toInt).toNat + 0)).toInt = 108 ∧ (fa 8 1 (((iv 8 5).toInt).toNat + 1)).toInt = 101 ∧ (fa 8 1 (((iv 8 5).toInt).toNat + 2)).toInt = 116 from ⟨by omega, by omega, by omega, by omega⟩)⟩))⟩, ht9⟩) (fun q hq => by cases hq) dX8_isSame_58
                · exact absurd c26 (by decide)
              · have fc24 := z_ne (by decide : (116 : Int32).toInt = 116) (rfl : (v23).toInt = _) c24
                refine lv_iconst (v := 0) hx hb dX8_isSame_49 (by decide) ?_
                have : (0 : Int32).toInt = 0 := (by decide)
                exact W.zret (v := 0) hx hb hr rfl (fun t ht9 hW => ⟨0, rfl, ⟨⟨by decide, by decide⟩, (show (((0 : Int32).toInt = 1 ∧ w_let (fun j => ((fa 8 1) j).toInt) ((iv 8 5) : Int32).toInt (d).toInt) ∨ ((0 : Int32).toInt = 0 ∧ ¬ w_let (fun j => ((fa 8 1) j).toInt) ((iv 8 5) : Int32).toInt (d).toInt)) from (by have q0 := congrArg Int32.toInt (ev9.trans (congrArg (fa 8 1) (show (v8 : Int32).toNatClampNeg = ((iv 8 5).toInt).toNat + 0 from (by show (v8 : Int32).toInt.toNat = _; omega)))); have q1 := congrArg Int32.toInt (ev16.trans (congrArg (fa 8 1) (show (v15 : Int32).toNatClampNeg = ((iv 8 5).toInt).toNat + 1 from (by show (v15 : Int32).toInt.toNat = _; omega)))); have q2 := congrArg Int32.toInt (ev23.trans (congrArg (fa 8 1) (show (v22 : Int32).toNatClampNeg = ((iv 8 5).toInt).toNat + 2 from (by show (v22 : Int32).toInt.toNat = _; omega)))); exact Or.inr ⟨by omega, fun h9 => (by have h8 : d.toInt - (iv 8 5).toInt = 3 ∧ (fa 8 1 (((iv 8 5).toInt).toNat + 0)).toInt = 108 ∧ (fa 8 1 (((iv 8 5).toInt).toNat + 1)).toInt = 101 ∧ (fa 8 1 (((iv 8 5).toInt).toNat + 2)).toInt = 116 := h9; omega)⟩))⟩, ht9⟩) (fun q hq => by cases hq) dX8_isSame_50
          · have fc17 := z_ne (by decide : (101 : Int32).toInt = 101) (rfl : (v16).toInt = _) c17
            refine lv_iconst (v := 0) hx hb dX8_isSame_49 (by decide) ?_
            have : (0 : Int32).toInt = 0 := (by decide)
            exact W.zret (v := 0) hx hb hr rfl (fun t ht9 hW => ⟨0, rfl, ⟨⟨by decide, by decide⟩, (show (((0 : Int32).toInt = 1 ∧ w_let (fun j => ((fa 8 1) j).toInt) ((iv 8 5) : Int32).toInt (d).toInt) ∨ ((0 : Int32).toInt = 0 ∧ ¬ w_let (fun j => ((fa 8 1) j).toInt) ((iv 8 5) : Int32).toInt (d).toInt)) from (by have q0 := congrArg Int32.toInt (ev9.trans (congrArg (fa 8 1) (show (v8 : Int32).toNatClampNeg = ((iv 8 5).toInt).toNat + 0 from (by show (v8 : Int32).toInt.toNat = _; omega)))); have q1 := congrArg Int32.toInt (ev16.trans (congrArg (fa 8 1) (show (v15 : Int32).toNatClampNeg = ((iv 8 5).toInt).toNat + 1 from (by show (v15 : Int32).toInt.toNat = _; omega)))); exact Or.inr ⟨by omega, fun h9 => (by have h8 : d.toInt - (iv 8 5).toInt = 3 ∧ (fa 8 1 (((iv 8 5).toInt).toNat + 0)).toInt = 108 ∧ (fa 8 1 (((iv 8 5).toInt).toNat + 1)).toInt = 101 ∧ (fa 8 1 (((iv 8 5).toInt).toNat + 2)).toInt = 116 := h9; omega)⟩))⟩, ht9⟩) (fun q hq => by cases hq) dX8_isSame_50
      · have fc10 := z_ne (by decide : (108 : Int32).toInt = 108) (rfl : (v9).toInt = _) c10
        refine lv_iconst (v := 0) hx hb dX8_isSame_49 (by decide) ?_
        have : (0 : Int32).toInt = 0 := (by decide)
        exact W.zret (v := 0) hx hb hr rfl (fun t ht9 hW => ⟨0, rfl, ⟨⟨by decide, by decide⟩, (show (((0 : Int32).toInt = 1 ∧ w_let (fun j => ((fa 8 1) j).toInt) ((iv 8 5) : Int32).toInt (d).toInt) ∨ ((0 : Int32).toInt = 0 ∧ ¬ w_let (fun j => ((fa 8 1) j).toInt) ((iv 8 5) : Int32).toInt (d).toInt)) from (by have q0 := congrArg Int32.toInt (ev9.trans (congrArg (fa 8 1) (show (v8 : Int32).toNatClampNeg = ((iv 8 5).toInt).toNat + 0 from (by show (v8 : Int32).toInt.toNat = _; omega)))); exact Or.inr ⟨by omega, fun h9 => (by have h8 : d.toInt - (iv 8 5).toInt = 3 ∧ (fa 8 1 (((iv 8 5).toInt).toNat + 0)).toInt = 108 ∧ (fa 8 1 (((iv 8 5).toInt).toNat + 1)).toInt = 101 ∧ (fa 8 1 (((iv 8 5).toInt).toNat + 2)).toInt = 116 := h9; omega)⟩))⟩, ht9⟩) (fun q hq => by cases hq) dX8_isSame_50
  · have fc3 := z_ne (by decide : (3 : Int32).toInt = 3) (rfl : (v2).toInt = _) c3
    refine lv_iconst (v := 0) hx hb dX8_isSame_13 (by decide) ?_
    have : (0 : Int32).toInt = 0 := (by decide)
    exact W.zret (v := 0) hx hb hr rfl (fun t ht9 hW => ⟨0, rfl, ⟨⟨by decide, by decide⟩, (show (((0 : Int32).toInt = 1 ∧ w_let (fun j => ((fa 8 1) j).toInt) ((iv 8 5) : Int32).toInt (d).toInt) ∨ ((0 : Int32).toInt = 0 ∧ ¬ w_let (fun j => ((fa 8 1) j).toInt) ((iv 8 5) : Int32).toInt (d).toInt)) from (by exact Or.inr ⟨by omega, fun h9 => (by have h8 : d.toInt - (iv 8 5).toInt = 3 ∧ (fa 8 1 (((iv 8 5).toInt).toNat + 0)).toInt = 108 ∧ (fa 8 1 (((iv 8 5).toInt).toNat + 1)).toInt = 101 ∧ (fa 8 1 (((iv 8 5).toInt).toNat + 2)).toInt = 116 := h9; omega)⟩))⟩, ht9⟩) (fun q hq => by cases hq) dX8_isSame_14
set_option maxHeartbeats 4000000 in
set_option maxRecDepth 100000 in
/-- X8_isSame -/
theorem c_X8_isSame_r0_4 (l : Launch) (dC : Nat → ClassId) (dI : Nat → Nat → Nat) (ak av : Nat → Nat) (h : Nat) (g : Nat → Nat → Nat) (ca : Nat → Nat → ClassId) (iv : Nat → Nat → Int32) (lv : Nat → Nat → Int64) (fa : Nat → Nat → Nat → Int32) (la : Nat → Nat → Nat → Int64) (hI : IX iv fa) (d : Int32) (h_d : 0 ≤ d.toInt ∧ d.toInt ≤ 200) : Met l yX8_isSame (wc yX8_isSame cX8_isSame 6 (some .boolean)) ({ frames := 4, cells := 0, slots := 0, locals := 85 } : Room) (pRZ ak av (dC, dI) classes (WX h g ca iv lv fa la) (TX ca) [.ref (g 11 4), .ref (ak 0), .int 4, .int 8, .int d]) (vp_Si (fun r => (0 ≤ r.toInt ∧ r.toInt ≤ 1) ∧ (((r.toInt = 1 ∧ w_take (fun j => ((fa 8 1) j).toInt) (iv 8 5).toInt d.toInt) ∨ (r.toInt = 0 ∧ ¬ w_take (fun j => ((fa 8 1) j).toInt) (iv 8 5).toInt d.toInt))))) 0 0 (fun _ => False) := by
  refine Met.ofW (cc := cX8_isSame) (maxL := 6) (ret := (some .boolean)) (by decide) rfl ?_
  intro p e s m args below meth c s₁ B hml hv
  obtain ⟨rfl, hP, hK, hZ⟩ := hv
  have hx := B.exec
  have hb := B.bytes
  have hr := B.returns
  have ht := tb_tl (atoms_spec (ws := wc yX8_isSame cX8_isSame 6 (some .boolean)) B.pre)
  have hown : s.vm.findClass RX8 = some m.cls := findClass_of_methodNamed B.named
  have hlocks := B.notSynchronized
  have hl := lv_entry [.ref (g 11 4), .ref (ak 0), .int 4, .int 8, .int d] (n := 6) (Nat.le_of_ble_eq_true rfl)
  rw [lg_entry_eq]
  generalize (lg_sl [.ref (g 11 4), .ref (ak 0), .int 4, .int 8, .int d] ++ List.replicate (6 - (lg_sl [.ref (g 11 4), .ref (ak 0), .int 4, .int 8, .int d]).length) Slot.unset).toArray = ls at hl ⊢
  have hl : lv_has ls 6 [(0, .ref (g 11 4)), (1, .ref (ak 0)), (2, .int 4), (3, .int 8), (4, .int d)] := hl
  refine lv_iload_n hx hb dX8_isSame_0 rfl (lv_at hl 3 rfl) ?_
  refine lv_iload_n hx hb dX8_isSame_1 rfl (lv_at hl 2 rfl) ?_
  refine lv_isub hx hb dX8_isSame_2 ?_
  refine lv_topi (fun v1 ev1 => ?_)
  obtain rfl : 4 = v1 := (ev1.trans (by decide)).symm
  refine lv_iload hx hb dX8_isSame_3 (lv_at hl 4 rfl) ?_
  refine lv_aload_n hx hb dX8_isSame_5 rfl (lv_at hl 0 rfl) ?_
  have i_8_5 : 0 ≤ (iv 8 5).toInt ∧ (iv 8 5).toInt ≤ 200 := hI.1 8 5
  refine gX_8_5 hx hb ht hown hK hP m_235 (v := (iv 8 5)) rfl dX8_isSame_6 ?_
  refine lv_isub hx hb dX8_isSame_9 ?_
  refine lv_topi (fun v2 ev2 => ?_)
  have tv2 := z_sub ev2 (rfl : (d).toInt = _) (rfl : ((iv 8 5)).toInt = _) (by omega) (by omega)
  refine lv_icmp_eq (tgt := 15) hx hb dX8_isSame_10 (by decide) (fun c3 => ?_) (fun c3 => ?_)
  · have fc3 := z_eq (by decide : (4 : Int32).toInt = 4) (rfl : (v2).toInt = _) c3
    refine lv_iconst (v := 0) hx hb dX8_isSame_15 (by decide) ?_
    refine lv_istore (lv' := [(5, .int 0), (0, .ref (g 11 4)), (1, .ref (ak 0)), (2, .int 4), (3, .int 8), (4, .int d)]) hx hb dX8_isSame_16 hl (by decide) rfl (fun ls hl => ?_)
    refine lv_iload hx hb dX8_isSame_18 (lv_at hl 0 rfl) ?_
    refine lv_iload_n hx hb dX8_isSame_20 rfl (lv_at hl 4 rfl) ?_
    refine lv_iload_n hx hb dX8_isSame_21 rfl (lv_at hl 3 rfl) ?_
    refine lv_isub hx hb dX8_isSame_22 ?_
    refine lv_topi (fun v4 ev4 => ?_)
    obtain rfl : 4 = v4 := (ev4.trans (by decide)).symm
    refine lv_icmp_ge (tgt := 57) hx hb dX8_isSame_23 (by decide) (fun c5 => ?_) (fun c5 => ?_)
    · exact absurd c5 (by decide)
    · skip
      refine lv_aload_n hx hb dX8_isSame_26 rfl (lv_at hl 2 rfl) ?_
      refine lv_iload_n hx hb dX8_isSame_27 rfl (lv_at hl 3 rfl) ?_
      refine lv_iload hx hb dX8_isSame_28 (lv_at hl 0 rfl) ?_
      refine lv_iadd hx hb dX8_isSame_30 ?_
      refine lv_topi (fun v6 ev6 => ?_)
      obtain rfl : 4 = v6 := (ev6.trans (by decide)).symm
      refine vp_callSi (W.runV (As := [.int 4]) (rest := []) ⟨hx, hb, hml, hown, ht⟩ (c_J0_charAt_5068e_0 l dC dI ak av 4 ⟨by decide, by decide⟩) (kV 1 ht m_715 m_716 m_717 m_91 m_718 rfl rfl hd_J0_charAt_5068e_v ⟨Nat.le_of_ble_eq_true rfl, Nat.le_of_ble_eq_true rfl⟩) (vRZ noP (hK.sub (tys' := []) [] rfl) hZ (vk_recv hZ.1.2.2.2.2.2 (i := 0) (by decide) va_S.rf)) rfl rfl hl.1 rfl (lv_room (Nat.le_of_ble_eq_true rfl)) dX8_isSame_31 ⟨Nat.le_of_ble_eq_true rfl, Nat.le_of_ble_eq_true rfl⟩) (fun r7 hr7 => ?_)
      obtain rfl : 116 = r7 := (hr7.trans (by decide)).symm
      refine lv_aload_n hx hb dX8_isSame_34 rfl (lv_at hl 1 rfl) ?_
      refine gX_8_1 hx hb ht hown hK hP m_229 dX8_isSame_35 ?_
      refine lv_aload_n hx hb dX8_isSame_38 rfl (lv_at hl 1 rfl) ?_
      refine gX_8_5 hx hb ht hown hK hP m_235 (v := (iv 8 5)) rfl dX8_isSame_39 ?_
      refine lv_iload hx hb dX8_isSame_42 (lv_at hl 0 rfl) ?_
      refine lv_iadd hx hb dX8_isSame_44 ?_
      refine lv_topi (fun v8 ev8 => ?_)
      have tv8 := z_add ev8 (rfl : ((iv 8 5)).toInt = _) (by decide : (0 : Int32).toInt = 0) (by omega) (by omega)
      have : 0 ≤ (v8 : Int32).toInt ∧ (v8 : Int32).toInt ≤ 199 := ⟨by omega, by omega⟩
      refine lX_8_1 hx hb hK hP (f := (fa 8 1)) rfl (vp_in_iff.mpr ⟨by omega, by omega⟩) dX8_isSame_45 ?_
      refine lv_topi (fun v9 ev9 => ?_)
      refine lv_icmp_eq (tgt := 51) hx hb dX8_isSame_46 (by decide) (fun c10 => ?_) (fun c10 => ?_)
      · have fc10 := z_eq (by decide : (116 : Int32).toInt = 116) (rfl : (v9).toInt = _) c10
        refine lv_iinc (v := 1) (lv' := [(5, .int 1), (0, .ref (g 11 4)), (1, .ref (ak 0)), (2, .int 4), (3, .int 8), (4, .int d)]) hx hb dX8_isSame_51 hl (k := 0) rfl (by decide) (by decide) rfl (fun ls hl => ?_)
        refine lv_goto (tgt := 18) hx hb dX8_isSame_54 (by decide) ?_
        refine lv_iload hx hb dX8_isSame_18 (lv_at hl 0 rfl) ?_
        refine lv_iload_n hx hb dX8_isSame_20 rfl (lv_at hl 4 rfl) ?_
        refine lv_iload_n hx hb dX8_isSame_21 rfl (lv_at hl 3 rfl) ?_
        refine lv_isub hx hb dX8_isSame_22 ?_
        refine lv_topi (fun v11 ev11 => ?_)
        obtain rfl : 4 = v11 := (ev11.trans (by decide)).symm
        refine lv_icmp_ge (tgt := 57) hx hb dX8_isSame_23 (by decide) (fun c12 => ?_) (fun c12 => ?_)
        · exact absurd c12 (by decide)
        · skip
          refine lv_aload_n hx hb dX8_isSame_26 rfl (lv_at hl 2 rfl) ?_
          refine lv_iload_n hx hb dX8_isSame_27 rfl (lv_at hl 3 rfl) ?_
          refine lv_iload hx hb dX8_isSame_28 (lv_at hl 0 rfl) ?_
          refine lv_iadd hx hb dX8_isSame_30 ?_
          refine lv_topi (fun v13 ev13 => ?_)
          obtain rfl : 5 = v13 := (ev13.trans (by decide)).symm
          refine vp_callSi (W.runV (As := [.int 5]) (rest := []) ⟨hx, hb, hml, hown, ht⟩ (c_J0_charAt_5068e_0 l dC dI ak av 5 ⟨by decide, by decide⟩) (kV 1 ht m_715 m_716 m_717 m_91 m_718 rfl rfl hd_J0_charAt_5068e_v ⟨Nat.le_of_ble_eq_true rfl, Nat.le_of_ble_eq_true rfl⟩) (vRZ noP (hK.sub (tys' := []) [] rfl) hZ (vk_recv hZ.1.2.2.2.2.2 (i := 0) (by decide) va_S.rf)) rfl rfl hl.1 rfl (lv_room (Nat.le_of_ble_eq_true rfl)) dX8_isSame_31 ⟨Nat.le_of_ble_eq_true rfl, Nat.le_of_ble_eq_true rfl⟩) (fun r14 hr14 => ?_)
          obtain rfl : 97 = r14 := (hr14.trans (by decide)).symm
          refine lv_aload_n hx hb dX8_isSame_34 rfl (lv_at hl 1 rfl) ?_
          refine gX_8_1 hx hb ht hown hK hP m_229 dX8_isSame_35 ?_
          refine lv_aload_n hx hb dX8_isSame_38 rfl (lv_at hl 1 rfl) ?_
          refine gX_8_5 hx hb ht hown hK hP m_235 (v := (iv 8 5)) rfl dX8_isSame_39 ?_
          refine lv_iload hx hb dX8_isSame_42 (lv_at hl 0 rfl) ?_
          refine lv_iadd hx hb dX8_isSame_44 ?_
          refine lv_topi (fun v15 ev15 => ?_)
          have tv15 := z_add ev15 (rfl : ((iv 8 5)).toInt = _) (by decide : (1 : Int32).toInt = 1) (by omega) (by omega)
          have : 0 ≤ (v15 : Int32).toInt ∧ (v15 : Int32).toInt ≤ 199 := ⟨by omega, by omega⟩
          refine lX_8_1 hx hb hK hP (f := (fa 8 1)) rfl (vp_in_iff.mpr ⟨by omega, by omega⟩) dX8_isSame_45 ?_
          refine lv_topi (fun v16 ev16 => ?_)
          refine lv_icmp_eq (tgt := 51) hx hb dX8_isSame_46 (by decide) (fun c17 => ?_) (fun c17 => ?_)
          · have fc17 := z_eq (by decide : (97 : Int32).toInt = 97) (rfl : (v16).toInt = _) c17
            refine lv_iinc (v := 2) (lv' := [(5, .int 2), (0, .ref (g 11 4)), (1, .ref (ak 0)), (2, .int 4), (3, .int 8), (4, .int d)]) hx hb dX8_isSame_51 hl (k := 0) rfl (by decide) (by decide) rfl (fun ls hl => ?_)
            refine lv_goto (tgt := 18) hx hb dX8_isSame_54 (by decide) ?_
            refine lv_iload hx hb dX8_isSame_18 (lv_at hl 0 rfl) ?_
            refine lv_iload_n hx hb dX8_isSame_20 rfl (lv_at hl 4 rfl) ?_
            refine lv_iload_n hx hb dX8_isSame_21 rfl (lv_at hl 3 rfl) ?_
            refine lv_isub hx hb dX8_isSame_22 ?_
            refine lv_topi (fun v18 ev18 => ?_)
            obtain rfl : 4 = v18 := (ev18.trans (by decide)).symm
            refine lv_icmp_ge (tgt := 57) hx hb dX8_isSame_23 (by decide) (fun c19 => ?_) (fun c19 => ?_)
            · exact absurd c19 (by decide)
            · skip
              refine lv_aload_n hx hb dX8_isSame_26 rfl (lv_at hl 2 rfl) ?_
              refine lv_iload_n hx hb dX8_isSame_27 rfl (lv_at hl 3 rfl) ?_
              refine lv_iload hx hb dX8_isSame_28 (lv_at hl 0 rfl) ?_
              refine lv_iadd hx hb dX8_isSame_30 ?_
              refine lv_topi (fun v20 ev20 => ?_)
              obtain rfl : 6 = v20 := (ev20.trans (by decide)).symm
              refine vp_callSi (W.runV (As := [.int 6]) (rest := []) ⟨hx, hb, hml, hown, ht⟩ (c_J0_charAt_5068e_0 l dC dI ak av 6 ⟨by decide, by decide⟩) (kV 1 ht m_715 m_716 m_717 m_91 m_718 rfl rfl hd_J0_charAt_5068e_v ⟨Nat.le_of_ble_eq_true rfl, Nat.le_of_ble_eq_true rfl⟩) (vRZ noP (hK.sub (tys' := []) [] rfl) hZ (vk_recv hZ.1.2.2.2.2.2 (i := 0) (by decide) va_S.rf)) rfl rfl hl.1 rfl (lv_room (Nat.le_of_ble_eq_true rfl)) dX8_isSame_31 ⟨Nat.le_of_ble_eq_true rfl, Nat.le_of_ble_eq_true rfl⟩) (fun r21 hr21 => ?_)
              obtain rfl : 107 = r21 := (hr21.trans (by decide)).symm
              refine lv_aload_n hx hb dX8_isSame_34 rfl (lv_at hl 1 rfl) ?_
              refine gX_8_1 hx hb ht hown hK hP m_229 dX8_isSame_35 ?_
              refine lv_aload_n hx hb dX8_isSame_38 rfl (lv_at hl 1 rfl) ?_
              refine gX_8_5 hx hb ht hown hK hP m_235 (v := (iv 8 5)) rfl dX8_isSame_39 ?_
              refine lv_iload hx hb dX8_isSame_42 (lv_at hl 0 rfl) ?_
              refine lv_iadd hx hb dX8_isSame_44 ?_
              refine lv_topi (fun v22 ev22 => ?_)
              have tv22 := z_add ev22 (rfl : ((iv 8 5)).toInt = _) (by decide : (2 : Int32).toInt = 2) (by omega) (by omega)
              have : 0 ≤ (v22 : Int32).toInt ∧ (v22 : Int32).toInt ≤ 199 := ⟨by omega, by omega⟩
              refine lX_8_1 hx hb hK hP (f := (fa 8 1)) rfl (vp_in_iff.mpr ⟨by omega, by omega⟩) dX8_isSame_45 ?_
              refine lv_topi (fun v23 ev23 => ?_)
              refine lv_icmp_eq (tgt := 51) hx hb dX8_isSame_46 (by decide) (fun c24 => ?_) (fun c24 => ?_)
              · have fc24 := z_eq (by decide : (107 : Int32).toInt = 107) (rfl : (v23).toInt = _) c24
                refine lv_iinc (v := 3) (lv' := [(5, .int 3), (0, .ref (g 11 4)), (1, .ref (ak 0)), (2, .int 4), (3, .int 8), (4, .int d)]) hx hb dX8_isSame_51 hl (k := 0) rfl (by decide) (by decide) rfl (fun ls hl => ?_)
                refine lv_goto (tgt := 18) hx hb dX8_isSame_54 (by decide) ?_
                refine lv_iload hx hb dX8_isSame_18 (lv_at hl 0 rfl) ?_
                refine lv_iload_n hx hb dX8_isSame_20 rfl (lv_at hl 4 rfl) ?_
                refine lv_iload_n hx hb dX8_isSame_21 rfl (lv_at hl 3 rfl) ?_
                refine lv_isub hx hb dX8_isSame_22 ?_
                refine lv_topi (fun v25 ev25 => ?_)
                obtain rfl : 4 = v25 := (ev25.trans (by decide)).symm
                refine lv_icmp_ge (tgt := 57) hx hb dX8_isSame_23 (by decide) (fun c26 => ?_) (fun c26 => ?_)
                · exact absurd c26 (by decide)
                · skip
                  refine lv_aload_n hx hb dX8_isSame_26 rfl (lv_at hl 2 rfl) ?_
                  refine lv_iload_n hx hb dX8_isSame_27 rfl (lv_at hl 3 rfl) ?_
                  refine lv_iload hx hb dX8_isSame_28 (lv_at hl 0 rfl) ?_
                  refine lv_iadd hx hb dX8_isSame_30 ?_
                  refine lv_topi (fun v27 ev27 => ?_)
                  obtain rfl : 7 = v27 := (ev27.trans (by decide)).symm
                  refine vp_callSi (W.runV (As := [.int 7]) (rest := []) ⟨hx, hb, hml, hown, ht⟩ (c_J0_charAt_5068e_0 l dC dI ak av 7 ⟨by decide, by decide⟩) (kV 1 ht m_715 m_716 m_717 m_91 m_718 rfl rfl hd_J0_charAt_5068e_v ⟨Nat.le_of_ble_eq_true rfl, Nat.le_of_ble_eq_true rfl⟩) (vRZ noP (hK.sub (tys' := []) [] rfl) hZ (vk_recv hZ.1.2.2.2.2.2 (i := 0) (by decide) va_S.rf)) rfl rfl hl.1 rfl (lv_room (Nat.le_of_ble_eq_true rfl)) dX8_isSame_31 ⟨Nat.le_of_ble_eq_true rfl, Nat.le_of_ble_eq_true rfl⟩) (fun r28 hr28 => ?_)
                  obtain rfl : 101 = r28 := (hr28.trans (by decide)).symm
                  refine lv_aload_n hx hb dX8_isSame_34 rfl (lv_at hl 1 rfl) ?_
                  refine gX_8_1 hx hb ht hown hK hP m_229 dX8_isSame_35 ?_
                  refine lv_aload_n hx hb dX8_isSame_38 rfl (lv_at hl 1 rfl) ?_
                  refine gX_8_5 hx hb ht hown hK hP m_235 (v := (iv 8 5)) rfl dX8_isSame_39 ?_
                  refine lv_iload hx hb dX8_isSame_42 (lv_at hl 0 rfl) ?_
                  refine lv_iadd hx hb dX8_isSame_44 ?_
                  refine lv_topi (fun v29 ev29 => ?_)
                  have tv29 := z_add ev29 (rfl : ((iv 8 5)).toInt = _) (by decide : (3 : Int32).toInt = 3) (by omega) (by omega)
                  have : 0 ≤ (v29 : Int32).toInt ∧ (v29 : Int32).toInt ≤ 199 := ⟨by omega, by omega⟩
                  refine lX_8_1 hx hb hK hP (f := (fa 8 1)) rfl (vp_in_iff.mpr ⟨by omega, by omega⟩) dX8_isSame_45 ?_
                  refine lv_topi (fun v30 ev30 => ?_)
                  refine lv_icmp_eq (tgt := 51) hx hb dX8_isSame_46 (by decide) (fun c31 => ?_) (fun c31 => ?_)
                  · have fc31 := z_eq (by decide : (101 : Int32).toInt = 101) (rfl : (v30).toInt = _) c31
                    refine lv_iinc (v := 4) (lv' := [(5, .int 4), (0, .ref (g 11 4)), (1, .ref (ak 0)), (2, .int 4), (3, .int 8), (4, .int d)]) hx hb dX8_isSame_51 hl (k := 0) rfl (by decide) (by decide) rfl (fun ls hl => ?_)
                    refine lv_goto (tgt := 18) hx hb dX8_isSame_54 (by decide) ?_
                    refine lv_iload hx hb dX8_isSame_18 (lv_at hl 0 rfl) ?_
                    refine lv_iload_n hx hb dX8_isSame_20 rfl (lv_at hl 4 rfl) ?_
                    refine lv_iload_n hx hb dX8_isSame_21 rfl (lv_at hl 3 rfl) ?_
                    refine lv_isub hx hb dX8_isSame_22 ?_
                    refine lv_topi (fun v32 ev32 => ?_)
                    obtain rfl : 4 = v32 := (ev32.trans (by decide)).symm
                    refine lv_icmp_ge (tgt := 57) hx hb dX8_isSame_23 (by decide) (fun c33 => ?_) (fun c33 => ?_)
                    · skip
                      refine lv_iconst (v := 1) hx hb dX8_isSame_57 (by decide) ?_
                      have : (1 : Int32).toInt = 1 := (by decide)
                      exact W.zret (v := 1) hx hb hr rfl (fun t ht9 hW => ⟨1, rfl, ⟨⟨by decide, by decide⟩, (show (((1 : Int32).toInt = 1 ∧ w_take (fun j => ((fa 8 1) j).toInt) ((iv 8 5) : Int32).toInt (d).toInt) ∨ ((1 : Int32).toInt = 0 ∧ ¬ w_take (fun j => ((fa 8 1) j).toInt) ((iv 8 5) : Int32).toInt (d).toInt)) from (by have q0 := congrArg Int32.toInt (ev9.trans (congrArg (fa 8 1) (show (v8 : Int32).toNatClampNeg = ((iv 8 5).toInt).toNat + 0 from (by show (v8 : Int32).toInt.toNat = _; omega)))); have q1 := congrArg Int32.toInt (ev16.trans (congrArg (fa 8 1) (show (v15 : Int32).toNatClampNeg = ((iv 8 5).toInt).toNat + 1 from (by show (v15 : Int32).toInt.toNat = _; omega)))); have q2 := congrArg Int32.toInt (ev23.trans (congrArg (fa 8 1) (show (v22 : Int32).toNatClampNeg = ((iv 8 5).toInt).toNat + 2 from (by show (v22 : Int32).toInt.toNat = _; omega)))); have q3 := congrArg Int32.toInt (ev30.trans (congrArg (fa 8 1) (show (v29 : Int32).toNatClampNeg = ((iv 8 5).toInt).toNat + 3 from (by show (v29 : Int32).toInt.toNat = _; omega)))); exact Or.inl ⟨by omega, (show d.toInt - (iv 8 5).toInt = 4 ∧ (fa 8 1 (((iv 8 5).toInt).toNat + 0)).toInt = 116 ∧ (fa 8 1 (((iv 8 5).toInt).toNat + 1)).toInt = 97 ∧ (fa 8 1 (((iv 8 5).toInt).toNat + 2)).toInt = 107 ∧ (fa 8 1 (((iv 8 5).toInt).toNat + 3)).toInt = 101 from ⟨by omega, by omega, by omega, by omega, by omega⟩)⟩))⟩, ht9⟩) (fun q hq => by cases hq) dX8_isSame_58
                    · exact absurd c33 (by decide)
                  · have fc31 := z_ne (by decide : (101 : Int32).toInt = 101) (rfl : (v30).toInt = _) c31
                    refine lv_iconst (v := 0) hx hb dX8_isSame_49 (by decide) ?_
                    have : (0 : Int32).toInt = 0 := (by decide)
                    exact W.zret (v := 0) hx hb hr rfl (fun t ht9 hW => ⟨0, rfl, ⟨⟨by decide, by decide⟩, (show (((0 : Int32).toInt = 1 ∧ w_take (fun j => ((fa 8 1) j).toInt) ((iv 8 5) : Int32).toInt (d).toInt) ∨ ((0 : Int32).toInt = 0 ∧ ¬ w_take (fun j => ((fa 8 1) j).toInt) ((iv 8 5) : Int32).toInt (d).toInt)) from (by have q0 := congrArg Int32.toInt (ev9.trans (congrArg (fa 8 1) (show (v8 : Int32).toNatClampNeg = ((iv 8 5).toInt).toNat + 0 from (by show (v8 : Int32).toInt.toNat = _; omega)))); have q1 := congrArg Int32.toInt (ev16.trans (congrArg (fa 8 1) (show (v15 : Int32).toNatClampNeg = ((iv 8 5).toInt).toNat + 1 from (by show (v15 : Int32).toInt.toNat = _; omega)))); have q2 := congrArg Int32.toInt (ev23.trans (congrArg (fa 8 1) (show (v22 : Int32).toNatClampNeg = ((iv 8 5).toInt).toNat + 2 from (by show (v22 : Int32).toInt.toNat = _; omega)))); have q3 := congrArg Int32.toInt (ev30.trans (congrArg (fa 8 1) (show (v29 : Int32).toNatClampNeg = ((iv 8 5).toInt).toNat + 3 from (by show (v29 : Int32).toInt.toNat = _; omega)))); exact Or.inr ⟨by omega, fun h9 => (by have h8 : d.toInt - (iv 8 5).toInt = 4 ∧ (fa 8 1 (((iv 8 5).toInt).toNat + 0)).toInt = 116 ∧ (fa 8 1 (((iv 8 5).toInt).toNat + 1)).toInt = 97 ∧ (fa 8 1 (((iv 8 5).toInt).toNat + 2)).toInt = 107 ∧ (fa 8 1 (((iv 8 5).toInt).toNat + 3)).toInt = 101 := h9; omega)⟩))⟩, ht9⟩) (fun q hq => by cases hq) dX8_isSame_50
              · have fc24 := z_ne (by decide : (107 : Int32).toInt = 107) (rfl : (v23).toInt = _) c24
                refine lv_iconst (v := 0) hx hb dX8_isSame_49 (by decide) ?_
                have : (0 : Int32).toInt = 0 := (by decide)
                exact W.zret (v := 0) hx hb hr rfl (fun t ht9 hW => ⟨0, rfl, ⟨⟨by decide, by decide⟩, (show (((0 : Int32).toInt = 1 ∧ w_take (fun j => ((fa 8 1) j).toInt) ((iv 8 5) : Int32).toInt (d).toInt) ∨ ((0 : Int32).toInt = 0 ∧ ¬ w_take (fun j => ((fa 8 1) j).toInt) ((iv 8 5) : Int32).toInt (d).toInt)) from (by have q0 := congrArg Int32.toInt (ev9.trans (congrArg (fa 8 1) (show (v8 : Int32).toNatClampNeg = ((iv 8 5).toInt).toNat + 0 from (by show (v8 : Int32).toInt.toNat = _; omega)))); have q1 := congrArg Int32.toInt (ev16.trans (congrArg (fa 8 1) (show (v15 : Int32).toNatClampNeg = ((iv 8 5).toInt).toNat + 1 from (by show (v15 : Int32).toInt.toNat = _; omega)))); have q2 := congrArg Int32.toInt (ev23.trans (congrArg (fa 8 1) (show (v22 : Int32).toNatClampNeg = ((iv 8 5).toInt).toNat + 2 from (by show (v22 : Int32).toInt.toNat = _; omega)))); exact Or.inr ⟨by omega, fun h9 => (by have h8 : d.toInt - (iv 8 5).toInt = 4 ∧ (fa 8 1 (((iv 8 5).toInt).toNat + 0)).toInt = 116 ∧ (fa 8 1 (((iv 8 5).toInt).toNat + 1)).toInt = 97 ∧ (fa 8 1 (((iv 8 5).toInt).toNat + 2)).toInt = 107 ∧ (fa 8 1 (((iv 8 5).toInt).toNat + 3)).toInt = 101 := h9; omega)⟩))⟩, ht9⟩) (fun q hq => by cases hq) dX8_isSame_50
          · have fc17 := z_ne (by decide : (97 : Int32).toInt = 97) (rfl : (v16).toInt = _) c17
            refine lv_iconst (v := 0) hx hb dX8_isSame_49 (by decide) ?_
            have : (0 : Int32).toInt = 0 := (by decide)
            exact W.zret (v := 0) hx hb hr rfl (fun t ht9 hW => ⟨0, rfl, ⟨⟨by decide, by decide⟩, (show (((0 : Int32).toInt = 1 ∧ w_take (fun j => ((fa 8 1) j).toInt) ((iv 8 5) : Int32).toInt (d).toInt) ∨ ((0 : Int32).toInt = 0 ∧ ¬ w_take (fun j => ((fa 8 1) j).toInt) ((iv 8 5) : Int32).toInt (d).toInt)) from (by have q0 := congrArg Int32.toInt (ev9.trans (congrArg (fa 8 1) (show (v8 : Int32).toNatClampNeg = ((iv 8 5).toInt).toNat + 0 from (by show (v8 : Int32).toInt.toNat = _; omega)))); have q1 := congrArg Int32.toInt (ev16.trans (congrArg (fa 8 1) (show (v15 : Int32).toNatClampNeg = ((iv 8 5).toInt).toNat + 1 from (by show (v15 : Int32).toInt.toNat = _; omega)))); exact Or.inr ⟨by omega, fun h9 => (by have h8 : d.toInt - (iv 8 5).toInt = 4 ∧ (fa 8 1 (((iv 8 5).toInt).toNat + 0)).toInt = 116 ∧ (fa 8 1 (((iv 8 5).toInt).toNat + 1)).toInt = 97 ∧ (fa 8 1 (((iv 8 5).toInt).toNat + 2)).toInt = 107 ∧ (fa 8 1 (((iv 8 5).toInt).toNat + 3)).toInt = 101 := h9; omega)⟩))⟩, ht9⟩) (fun q hq => by cases hq) dX8_isSame_50
      · have fc10 := z_ne (by decide : (116 : Int32).toInt = 116) (rfl : (v9).toInt = _) c10
        refine lv_iconst (v := 0) hx hb dX8_isSame_49 (by decide) ?_
        have : (0 : Int32).toInt = 0 := (by decide)
        exact W.zret (v := 0) hx hb hr rfl (fun t ht9 hW => ⟨0, rfl, ⟨⟨by decide, by decide⟩, (show (((0 : Int32).toInt = 1 ∧ w_take (fun j => ((fa 8 1) j).toInt) ((iv 8 5) : Int32).toInt (d).toInt) ∨ ((0 : Int32).toInt = 0 ∧ ¬ w_take (fun j => ((fa 8 1) j).toInt) ((iv 8 5) : Int32).toInt (d).toInt)) from (by have q0 := congrArg Int32.toInt (ev9.trans (congrArg (fa 8 1) (show (v8 : Int32).toNatClampNeg = ((iv 8 5).toInt).toNat + 0 from (by show (v8 : Int32).toInt.toNat = _; omega)))); exact Or.inr ⟨by omega, fun h9 => (by have h8 : d.toInt - (iv 8 5).toInt = 4 ∧ (fa 8 1 (((iv 8 5).toInt).toNat + 0)).toInt = 116 ∧ (fa 8 1 (((iv 8 5).toInt).toNat + 1)).toInt = 97 ∧ (fa 8 1 (((iv 8 5).toInt).toNat + 2)).toInt = 107 ∧ (fa 8 1 (((iv 8 5).toInt).toNat + 3)).toInt = 101 := h9; omega)⟩))⟩, ht9⟩) (fun q hq => by cases hq) dX8_isSame_50
  · have fc3 := z_ne (by decide : (4 : Int32).toInt = 4) (rfl : (v2).toInt = _) c3
    refine lv_iconst (v := 0) hx hb dX8_isSame_13 (by decide) ?_
    have : (0 : Int32).toInt = 0 := (by decide)
    exact W.zret (v := 0) hx hb hr rfl (fun t ht9 hW => ⟨0, rfl, ⟨⟨by decide, by decide⟩, (show (((0 : Int32).toInt = 1 ∧ w_take (fun j => ((fa 8 1) j).toInt) ((iv 8 5) : Int32).toInt (d).toInt) ∨ ((0 : Int32).toInt = 0 ∧ ¬ w_take (fun j => ((fa 8 1) j).toInt) ((iv 8 5) : Int32).toInt (d).toInt)) from (by exact Or.inr ⟨by omega, fun h9 => (by have h8 : d.toInt - (iv 8 5).toInt = 4 ∧ (fa 8 1 (((iv 8 5).toInt).toNat + 0)).toInt = 116 ∧ (fa 8 1 (((iv 8 5).toInt).toNat + 1)).toInt = 97 ∧ (fa 8 1 (((iv 8 5).toInt).toNat + 2)).toInt = 107 ∧ (fa 8 1 (((iv 8 5).toInt).toNat + 3)).toInt = 101 := h9; omega)⟩))⟩, ht9⟩) (fun q hq => by cases hq) dX8_isSame_14
set_option maxHeartbeats 4000000 in
set_option maxRecDepth 100000 in
/-- X8_isSame -/
theorem c_X8_isSame_r0_9 (l : Launch) (dC : Nat → ClassId) (dI : Nat → Nat → Nat) (ak av : Nat → Nat) (h : Nat) (g : Nat → Nat → Nat) (ca : Nat → Nat → ClassId) (iv : Nat → Nat → Int32) (lv : Nat → Nat → Int64) (fa : Nat → Nat → Nat → Int32) (la : Nat → Nat → Nat → Int64) (hI : IX iv fa) (d : Int32) (h_d : 0 ≤ d.toInt ∧ d.toInt ≤ 200) : Met l yX8_isSame (wc yX8_isSame cX8_isSame 6 (some .boolean)) ({ frames := 4, cells := 0, slots := 0, locals := 85 } : Room) (pRZ ak av (dC, dI) classes (WX h g ca iv lv fa la) (TX ca) [.ref (g 11 4), .ref (ak 0), .int 9, .int 13, .int d]) (vp_Si (fun r => (0 ≤ r.toInt ∧ r.toInt ≤ 1) ∧ (((r.toInt = 1 ∧ w_name (fun j => ((fa 8 1) j).toInt) (iv 8 5).toInt d.toInt) ∨ (r.toInt = 0 ∧ ¬ w_name (fun j => ((fa 8 1) j).toInt) (iv 8 5).toInt d.toInt))))) 0 0 (fun _ => False) := by
  refine Met.ofW (cc := cX8_isSame) (maxL := 6) (ret := (some .boolean)) (by decide) rfl ?_
  intro p e s m args below meth c s₁ B hml hv
  obtain ⟨rfl, hP, hK, hZ⟩ := hv
  have hx := B.exec
  have hb := B.bytes
  have hr := B.returns
  have ht := tb_tl (atoms_spec (ws := wc yX8_isSame cX8_isSame 6 (some .boolean)) B.pre)
  have hown : s.vm.findClass RX8 = some m.cls := findClass_of_methodNamed B.named
  have hlocks := B.notSynchronized
  have hl := lv_entry [.ref (g 11 4), .ref (ak 0), .int 9, .int 13, .int d] (n := 6) (Nat.le_of_ble_eq_true rfl)
  rw [lg_entry_eq]
  generalize (lg_sl [.ref (g 11 4), .ref (ak 0), .int 9, .int 13, .int d] ++ List.replicate (6 - (lg_sl [.ref (g 11 4), .ref (ak 0), .int 9, .int 13, .int d]).length) Slot.unset).toArray = ls at hl ⊢
  have hl : lv_has ls 6 [(0, .ref (g 11 4)), (1, .ref (ak 0)), (2, .int 9), (3, .int 13), (4, .int d)] := hl
  refine lv_iload_n hx hb dX8_isSame_0 rfl (lv_at hl 3 rfl) ?_
  refine lv_iload_n hx hb dX8_isSame_1 rfl (lv_at hl 2 rfl) ?_
  refine lv_isub hx hb dX8_isSame_2 ?_
  refine lv_topi (fun v1 ev1 => ?_)
  obtain rfl : 4 = v1 := (ev1.trans (by decide)).symm
  refine lv_iload hx hb dX8_isSame_3 (lv_at hl 4 rfl) ?_
  refine lv_aload_n hx hb dX8_isSame_5 rfl (lv_at hl 0 rfl) ?_
  have i_8_5 : 0 ≤ (iv 8 5).toInt ∧ (iv 8 5).toInt ≤ 200 := hI.1 8 5
  refine gX_8_5 hx hb ht hown hK hP m_235 (v := (iv 8 5)) rfl dX8_isSame_6 ?_
  refine lv_isub hx hb dX8_isSame_9 ?_
  refine lv_topi (fun v2 ev2 => ?_)
  have tv2 := z_sub ev2 (rfl : (d).toInt = _) (rfl : ((iv 8 5)).toInt = _) (by omega) (by omega)
  refine lv_icmp_eq (tgt := 15) hx hb dX8_isSame_10 (by decide) (fun c3 => ?_) (fun c3 => ?_)
  · have fc3 := z_eq (by decide : (4 : Int32).toInt = 4) (rfl : (v2).toInt = _) c3
    refine lv_iconst (v := 0) hx hb dX8_isSame_15 (by decide) ?_
    refine lv_istore (lv' := [(5, .int 0), (0, .ref (g 11 4)), (1, .ref (ak 0)), (2, .int 9), (3, .int 13), (4, .int d)]) hx hb dX8_isSame_16 hl (by decide) rfl (fun ls hl => ?_)
    refine lv_iload hx hb dX8_isSame_18 (lv_at hl 0 rfl) ?_
    refine lv_iload_n hx hb dX8_isSame_20 rfl (lv_at hl 4 rfl) ?_
    refine lv_iload_n hx hb dX8_isSame_21 rfl (lv_at hl 3 rfl) ?_
    refine lv_isub hx hb dX8_isSame_22 ?_
    refine lv_topi (fun v4 ev4 => ?_)
    obtain rfl : 4 = v4 := (ev4.trans (by decide)).symm
    refine lv_icmp_ge (tgt := 57) hx hb dX8_isSame_23 (by decide) (fun c5 => ?_) (fun c5 => ?_)
    · exact absurd c5 (by decide)
    · skip
      refine lv_aload_n hx hb dX8_isSame_26 rfl (lv_at hl 2 rfl) ?_
      refine lv_iload_n hx hb dX8_isSame_27 rfl (lv_at hl 3 rfl) ?_
      refine lv_iload hx hb dX8_isSame_28 (lv_at hl 0 rfl) ?_
      refine lv_iadd hx hb dX8_isSame_30 ?_
      refine lv_topi (fun v6 ev6 => ?_)
      obtain rfl : 9 = v6 := (ev6.trans (by decide)).symm
      refine vp_callSi (W.runV (As := [.int 9]) (rest := []) ⟨hx, hb, hml, hown, ht⟩ (c_J0_charAt_5068e_0 l dC dI ak av 9 ⟨by decide, by decide⟩) (kV 1 ht m_715 m_716 m_717 m_91 m_718 rfl rfl hd_J0_charAt_5068e_v ⟨Nat.le_of_ble_eq_true rfl, Nat.le_of_ble_eq_true rfl⟩) (vRZ noP (hK.sub (tys' := []) [] rfl) hZ (vk_recv hZ.1.2.2.2.2.2 (i := 0) (by decide) va_S.rf)) rfl rfl hl.1 rfl (lv_room (Nat.le_of_ble_eq_true rfl)) dX8_isSame_31 ⟨Nat.le_of_ble_eq_true rfl, Nat.le_of_ble_eq_true rfl⟩) (fun r7 hr7 => ?_)
      obtain rfl : 110 = r7 := (hr7.trans (by decide)).symm
      refine lv_aload_n hx hb dX8_isSame_34 rfl (lv_at hl 1 rfl) ?_
      refine gX_8_1 hx hb ht hown hK hP m_229 dX8_isSame_35 ?_
      refine lv_aload_n hx hb dX8_isSame_38 rfl (lv_at hl 1 rfl) ?_
      refine gX_8_5 hx hb ht hown hK hP m_235 (v := (iv 8 5)) rfl dX8_isSame_39 ?_
      refine lv_iload hx hb dX8_isSame_42 (lv_at hl 0 rfl) ?_
      refine lv_iadd hx hb dX8_isSame_44 ?_
      refine lv_topi (fun v8 ev8 => ?_)
      have tv8 := z_add ev8 (rfl : ((iv 8 5)).toInt = _) (by decide : (0 : Int32).toInt = 0) (by omega) (by omega)
      have : 0 ≤ (v8 : Int32).toInt ∧ (v8 : Int32).toInt ≤ 199 := ⟨by omega, by omega⟩
      refine lX_8_1 hx hb hK hP (f := (fa 8 1)) rfl (vp_in_iff.mpr ⟨by omega, by omega⟩) dX8_isSame_45 ?_
      refine lv_topi (fun v9 ev9 => ?_)
      refine lv_icmp_eq (tgt := 51) hx hb dX8_isSame_46 (by decide) (fun c10 => ?_) (fun c10 => ?_)
      · have fc10 := z_eq (by decide : (110 : Int32).toInt = 110) (rfl : (v9).toInt = _) c10
        refine lv_iinc (v := 1) (lv' := [(5, .int 1), (0, .ref (g 11 4)), (1, .ref (ak 0)), (2, .int 9), (3, .int 13), (4, .int d)]) hx hb dX8_isSame_51 hl (k := 0) rfl (by decide) (by decide) rfl (fun ls hl => ?_)
        refine lv_goto (tgt := 18) hx hb dX8_isSame_54 (by decide) ?_
        refine lv_iload hx hb dX8_isSame_18 (lv_at hl 0 rfl) ?_
        refine lv_iload_n hx hb dX8_isSame_20 rfl (lv_at hl 4 rfl) ?_
        refine lv_iload_n hx hb dX8_isSame_21 rfl (lv_at hl 3 rfl) ?_
        refine lv_isub hx hb dX8_isSame_22 ?_
        refine lv_topi (fun v11 ev11 => ?_)
        obtain rfl : 4 = v11 := (ev11.trans (by decide)).symm
        refine lv_icmp_ge (tgt := 57) hx hb dX8_isSame_23 (by decide) (fun c12 => ?_) (fun c12 => ?_)
        · exact absurd c12 (by decide)
        · skip
          refine lv_aload_n hx hb dX8_isSame_26 rfl (lv_at hl 2 rfl) ?_
          refine lv_iload_n hx hb dX8_isSame_27 rfl (lv_at hl 3 rfl) ?_
          refine lv_iload hx hb dX8_isSame_28 (lv_at hl 0 rfl) ?_
          refine lv_iadd hx hb dX8_isSame_30 ?_
          refine lv_topi (fun v13 ev13 => ?_)
          obtain rfl : 10 = v13 := (ev13.trans (by decide)).symm
          refine vp_callSi (W.runV (As := [.int 10]) (rest := []) ⟨hx, hb, hml, hown, ht⟩ (c_J0_charAt_5068e_0 l dC dI ak av 10 ⟨by decide, by decide⟩) (kV 1 ht m_715 m_716 m_717 m_91 m_718 rfl rfl hd_J0_charAt_5068e_v ⟨Nat.le_of_ble_eq_true rfl, Nat.le_of_ble_eq_true rfl⟩) (vRZ noP (hK.sub (tys' := []) [] rfl) hZ (vk_recv hZ.1.2.2.2.2.2 (i := 0) (by decide) va_S.rf)) rfl rfl hl.1 rfl (lv_room (Nat.le_of_ble_eq_true rfl)) dX8_isSame_31 ⟨Nat.le_of_ble_eq_true rfl, Nat.le_of_ble_eq_true rfl⟩) (fun r14 hr14 => ?_)
          obtain rfl : 97 = r14 := (hr14.trans (by decide)).symm
          refine lv_aload_n hx hb dX8_isSame_34 rfl (lv_at hl 1 rfl) ?_
          refine gX_8_1 hx hb ht hown hK hP m_229 dX8_isSame_35 ?_
          refine lv_aload_n hx hb dX8_isSame_38 rfl (lv_at hl 1 rfl) ?_
          refine gX_8_5 hx hb ht hown hK hP m_235 (v := (iv 8 5)) rfl dX8_isSame_39 ?_
          refine lv_iload hx hb dX8_isSame_42 (lv_at hl 0 rfl) ?_
          refine lv_iadd hx hb dX8_isSame_44 ?_
          refine lv_topi (fun v15 ev15 => ?_)
          have tv15 := z_add ev15 (rfl : ((iv 8 5)).toInt = _) (by decide : (1 : Int32).toInt = 1) (by omega) (by omega)
          have : 0 ≤ (v15 : Int32).toInt ∧ (v15 : Int32).toInt ≤ 199 := ⟨by omega, by omega⟩
          refine lX_8_1 hx hb hK hP (f := (fa 8 1)) rfl (vp_in_iff.mpr ⟨by omega, by omega⟩) dX8_isSame_45 ?_
          refine lv_topi (fun v16 ev16 => ?_)
          refine lv_icmp_eq (tgt := 51) hx hb dX8_isSame_46 (by decide) (fun c17 => ?_) (fun c17 => ?_)
          · have fc17 := z_eq (by decide : (97 : Int32).toInt = 97) (rfl : (v16).toInt = _) c17
            refine lv_iinc (v := 2) (lv' := [(5, .int 2), (0, .ref (g 11 4)), (1, .ref (ak 0)), (2, .int 9), (3, .int 13), (4, .int d)]) hx hb dX8_isSame_51 hl (k := 0) rfl (by decide) (by decide) rfl (fun ls hl => ?_)
            refine lv_goto (tgt := 18) hx hb dX8_isSame_54 (by decide) ?_
            refine lv_iload hx hb dX8_isSame_18 (lv_at hl 0 rfl) ?_
            refine lv_iload_n hx hb dX8_isSame_20 rfl (lv_at hl 4 rfl) ?_
            refine lv_iload_n hx hb dX8_isSame_21 rfl (lv_at hl 3 rfl) ?_
            refine lv_isub hx hb dX8_isSame_22 ?_
            refine lv_topi (fun v18 ev18 => ?_)
            obtain rfl : 4 = v18 := (ev18.trans (by decide)).symm
            refine lv_icmp_ge (tgt := 57) hx hb dX8_isSame_23 (by decide) (fun c19 => ?_) (fun c19 => ?_)
            · exact absurd c19 (by decide)
            · skip
              refine lv_aload_n hx hb dX8_isSame_26 rfl (lv_at hl 2 rfl) ?_
              refine lv_iload_n hx hb dX8_isSame_27 rfl (lv_at hl 3 rfl) ?_
              refine lv_iload hx hb dX8_isSame_28 (lv_at hl 0 rfl) ?_
              refine lv_iadd hx hb dX8_isSame_30 ?_
              refine lv_topi (fun v20 ev20 => ?_)
              obtain rfl : 11 = v20 := (ev20.trans (by decide)).symm
              refine vp_callSi (W.runV (As := [.int 11]) (rest := []) ⟨hx, hb, hml, hown, ht⟩ (c_J0_charAt_5068e_0 l dC dI ak av 11 ⟨by decide, by decide⟩) (kV 1 ht m_715 m_716 m_717 m_91 m_718 rfl rfl hd_J0_charAt_5068e_v ⟨Nat.le_of_ble_eq_true rfl, Nat.le_of_ble_eq_true rfl⟩) (vRZ noP (hK.sub (tys' := []) [] rfl) hZ (vk_recv hZ.1.2.2.2.2.2 (i := 0) (by decide) va_S.rf)) rfl rfl hl.1 rfl (lv_room (Nat.le_of_ble_eq_true rfl)) dX8_isSame_31 ⟨Nat.le_of_ble_eq_true rfl, Nat.le_of_ble_eq_true rfl⟩) (fun r21 hr21 => ?_)
              obtain rfl : 109 = r21 := (hr21.trans (by decide)).symm
              refine lv_aload_n hx hb dX8_isSame_34 rfl (lv_at hl 1 rfl) ?_
              refine gX_8_1 hx hb ht hown hK hP m_229 dX8_isSame_35 ?_
              refine lv_aload_n hx hb dX8_isSame_38 rfl (lv_at hl 1 rfl) ?_
              refine gX_8_5 hx hb ht hown hK hP m_235 (v := (iv 8 5)) rfl dX8_isSame_39 ?_
              refine lv_iload hx hb dX8_isSame_42 (lv_at hl 0 rfl) ?_
              refine lv_iadd hx hb dX8_isSame_44 ?_
              refine lv_topi (fun v22 ev22 => ?_)
              have tv22 := z_add ev22 (rfl : ((iv 8 5)).toInt = _) (by decide : (2 : Int32).toInt = 2) (by omega) (by omega)
              have : 0 ≤ (v22 : Int32).toInt ∧ (v22 : Int32).toInt ≤ 199 := ⟨by omega, by omega⟩
              refine lX_8_1 hx hb hK hP (f := (fa 8 1)) rfl (vp_in_iff.mpr ⟨by omega, by omega⟩) dX8_isSame_45 ?_
              refine lv_topi (fun v23 ev23 => ?_)
              refine lv_icmp_eq (tgt := 51) hx hb dX8_isSame_46 (by decide) (fun c24 => ?_) (fun c24 => ?_)
              · have fc24 := z_eq (by decide : (109 : Int32).toInt = 109) (rfl : (v23).toInt = _) c24
                refine lv_iinc (v := 3) (lv' := [(5, .int 3), (0, .ref (g 11 4)), (1, .ref (ak 0)), (2, .int 9), (3, .int 13), (4, .int d)]) hx hb dX8_isSame_51 hl (k := 0) rfl (by decide) (by decide) rfl (fun ls hl => ?_)
                refine lv_goto (tgt := 18) hx hb dX8_isSame_54 (by decide) ?_
                refine lv_iload hx hb dX8_isSame_18 (lv_at hl 0 rfl) ?_
                refine lv_iload_n hx hb dX8_isSame_20 rfl (lv_at hl 4 rfl) ?_
                refine lv_iload_n hx hb dX8_isSame_21 rfl (lv_at hl 3 rfl) ?_
                refine lv_isub hx hb dX8_isSame_22 ?_
                refine lv_topi (fun v25 ev25 => ?_)
                obtain rfl : 4 = v25 := (ev25.trans (by decide)).symm
                refine lv_icmp_ge (tgt := 57) hx hb dX8_isSame_23 (by decide) (fun c26 => ?_) (fun c26 => ?_)
                · exact absurd c26 (by decide)
                · skip
                  refine lv_aload_n hx hb dX8_isSame_26 rfl (lv_at hl 2 rfl) ?_
                  refine lv_iload_n hx hb dX8_isSame_27 rfl (lv_at hl 3 rfl) ?_
                  refine lv_iload hx hb dX8_isSame_28 (lv_at hl 0 rfl) ?_
                  refine lv_iadd hx hb dX8_isSame_30 ?_
                  refine lv_topi (fun v27 ev27 => ?_)
                  obtain rfl : 12 = v27 := (ev27.trans (by decide)).symm
                  refine vp_callSi (W.runV (As := [.int 12]) (rest := []) ⟨hx, hb, hml, hown, ht⟩ (c_J0_charAt_5068e_0 l dC dI ak av 12 ⟨by decide, by decide⟩) (kV 1 ht m_715 m_716 m_717 m_91 m_718 rfl rfl hd_J0_charAt_5068e_v ⟨Nat.le_of_ble_eq_true rfl, Nat.le_of_ble_eq_true rfl⟩) (vRZ noP (hK.sub (tys' := []) [] rfl) hZ (vk_recv hZ.1.2.2.2.2.2 (i := 0) (by decide) va_S.rf)) rfl rfl hl.1 rfl (lv_room (Nat.le_of_ble_eq_true rfl)) dX8_isSame_31 ⟨Nat.le_of_ble_eq_true rfl, Nat.le_of_ble_eq_true rfl⟩) (fun r28 hr28 => ?_)
                  obtain rfl : 101 = r28 := (hr28.trans (by decide)).symm
                  refine lv_aload_n hx hb dX8_isSame_34 rfl (lv_at hl 1 rfl) ?_
                  refine gX_8_1 hx hb ht hown hK hP m_229 dX8_isSame_35 ?_
                  refine lv_aload_n hx hb dX8_isSame_38 rfl (lv_at hl 1 rfl) ?_
                  refine gX_8_5 hx hb ht hown hK hP m_235 (v := (iv 8 5)) rfl dX8_isSame_39 ?_
                  refine lv_iload hx hb dX8_isSame_42 (lv_at hl 0 rfl) ?_
                  refine lv_iadd hx hb dX8_isSame_44 ?_
                  refine lv_topi (fun v29 ev29 => ?_)
                  have tv29 := z_add ev29 (rfl : ((iv 8 5)).toInt = _) (by decide : (3 : Int32).toInt = 3) (by omega) (by omega)
                  have : 0 ≤ (v29 : Int32).toInt ∧ (v29 : Int32).toInt ≤ 199 := ⟨by omega, by omega⟩
                  refine lX_8_1 hx hb hK hP (f := (fa 8 1)) rfl (vp_in_iff.mpr ⟨by omega, by omega⟩) dX8_isSame_45 ?_
                  refine lv_topi (fun v30 ev30 => ?_)
                  refine lv_icmp_eq (tgt := 51) hx hb dX8_isSame_46 (by decide) (fun c31 => ?_) (fun c31 => ?_)
                  · have fc31 := z_eq (by decide : (101 : Int32).toInt = 101) (rfl : (v30).toInt = _) c31
                    refine lv_iinc (v := 4) (lv' := [(5, .int 4), (0, .ref (g 11 4)), (1, .ref (ak 0)), (2, .int 9), (3, .int 13), (4, .int d)]) hx hb dX8_isSame_51 hl (k := 0) rfl (by decide) (by decide) rfl (fun ls hl => ?_)
                    refine lv_goto (tgt := 18) hx hb dX8_isSame_54 (by decide) ?_
                    refine lv_iload hx hb dX8_isSame_18 (lv_at hl 0 rfl) ?_
                    refine lv_iload_n hx hb dX8_isSame_20 rfl (lv_at hl 4 rfl) ?_
                    refine lv_iload_n hx hb dX8_isSame_21 rfl (lv_at hl 3 rfl) ?_
                    refine lv_isub hx hb dX8_isSame_22 ?_
                    refine lv_topi (fun v32 ev32 => ?_)
                    obtain rfl : 4 = v32 := (ev32.trans (by decide)).symm
                    refine lv_icmp_ge (tgt := 57) hx hb dX8_isSame_23 (by decide) (fun c33 => ?_) (fun c33 => ?_)
                    · skip
                      refine lv_iconst (v := 1) hx hb dX8_isSame_57 (by decide) ?_
                      have : (1 : Int32).toInt = 1 := (by decide)
                      exact W.zret (v := 1) hx hb hr rfl (fun t ht9 hW => ⟨1, rfl, ⟨⟨by decide, by decide⟩, (show (((1 : Int32).toInt = 1 ∧ w_name (fun j => ((fa 8 1) j).toInt) ((iv 8 5) : Int32).toInt (d).toInt) ∨ ((1 : Int32).toInt = 0 ∧ ¬ w_name (fun j => ((fa 8 1) j).toInt) ((iv 8 5) : Int32).toInt (d).toInt)) from (by have q0 := congrArg Int32.toInt (ev9.trans (congrArg (fa 8 1) (show (v8 : Int32).toNatClampNeg = ((iv 8 5).toInt).toNat + 0 from (by show (v8 : Int32).toInt.toNat = _; omega)))); have q1 := congrArg Int32.toInt (ev16.trans (congrArg (fa 8 1) (show (v15 : Int32).toNatClampNeg = ((iv 8 5).toInt).toNat + 1 from (by show (v15 : Int32).toInt.toNat = _; omega)))); have q2 := congrArg Int32.toInt (ev23.trans (congrArg (fa 8 1) (show (v22 : Int32).toNatClampNeg = ((iv 8 5).toInt).toNat + 2 from (by show (v22 : Int32).toInt.toNat = _; omega)))); have q3 := congrArg Int32.toInt (ev30.trans (congrArg (fa 8 1) (show (v29 : Int32).toNatClampNeg = ((iv 8 5).toInt).toNat + 3 from (by show (v29 : Int32).toInt.toNat = _; omega)))); exact Or.inl ⟨by omega, (show d.toInt - (iv 8 5).toInt = 4 ∧ (fa 8 1 (((iv 8 5).toInt).toNat + 0)).toInt = 110 ∧ (fa 8 1 (((iv 8 5).toInt).toNat + 1)).toInt = 97 ∧ (fa 8 1 (((iv 8 5).toInt).toNat + 2)).toInt = 109 ∧ (fa 8 1 (((iv 8 5).toInt).toNat + 3)).toInt = 101 from ⟨by omega, by omega, by omega, by omega, by omega⟩)⟩))⟩, ht9⟩) (fun q hq => by cases hq) dX8_isSame_58
                    · exact absurd c33 (by decide)
                  · have fc31 := z_ne (by decide : (101 : Int32).toInt = 101) (rfl : (v30).toInt = _) c31
                    refine lv_iconst (v := 0) hx hb dX8_isSame_49 (by decide) ?_
                    have : (0 : Int32).toInt = 0 := (by decide)
                    exact W.zret (v := 0) hx hb hr rfl (fun t ht9 hW => ⟨0, rfl, ⟨⟨by decide, by decide⟩, (show (((0 : Int32).toInt = 1 ∧ w_name (fun j => ((fa 8 1) j).toInt) ((iv 8 5) : Int32).toInt (d).toInt) ∨ ((0 : Int32).toInt = 0 ∧ ¬ w_name (fun j => ((fa 8 1) j).toInt) ((iv 8 5) : Int32).toInt (d).toInt)) from (by have q0 := congrArg Int32.toInt (ev9.trans (congrArg (fa 8 1) (show (v8 : Int32).toNatClampNeg = ((iv 8 5).toInt).toNat + 0 from (by show (v8 : Int32).toInt.toNat = _; omega)))); have q1 := congrArg Int32.toInt (ev16.trans (congrArg (fa 8 1) (show (v15 : Int32).toNatClampNeg = ((iv 8 5).toInt).toNat + 1 from (by show (v15 : Int32).toInt.toNat = _; omega)))); have q2 := congrArg Int32.toInt (ev23.trans (congrArg (fa 8 1) (show (v22 : Int32).toNatClampNeg = ((iv 8 5).toInt).toNat + 2 from (by show (v22 : Int32).toInt.toNat = _; omega)))); have q3 := congrArg Int32.toInt (ev30.trans (congrArg (fa 8 1) (show (v29 : Int32).toNatClampNeg = ((iv 8 5).toInt).toNat + 3 from (by show (v29 : Int32).toInt.toNat = _; omega)))); exact Or.inr ⟨by omega, fun h9 => (by have h8 : d.toInt - (iv 8 5).toInt = 4 ∧ (fa 8 1 (((iv 8 5).toInt).toNat + 0)).toInt = 110 ∧ (fa 8 1 (((iv 8 5).toInt).toNat + 1)).toInt = 97 ∧ (fa 8 1 (((iv 8 5).toInt).toNat + 2)).toInt = 109 ∧ (fa 8 1 (((iv 8 5).toInt).toNat + 3)).toInt = 101 := h9; omega)⟩))⟩, ht9⟩) (fun q hq => by cases hq) dX8_isSame_50
              · have fc24 := z_ne (by decide : (109 : Int32).toInt = 109) (rfl : (v23).toInt = _) c24
                refine lv_iconst (v := 0) hx hb dX8_isSame_49 (by decide) ?_
                have : (0 : Int32).toInt = 0 := (by decide)
                exact W.zret (v := 0) hx hb hr rfl (fun t ht9 hW => ⟨0, rfl, ⟨⟨by decide, by decide⟩, (show (((0 : Int32).toInt = 1 ∧ w_name (fun j => ((fa 8 1) j).toInt) ((iv 8 5) : Int32).toInt (d).toInt) ∨ ((0 : Int32).toInt = 0 ∧ ¬ w_name (fun j => ((fa 8 1) j).toInt) ((iv 8 5) : Int32).toInt (d).toInt)) from (by have q0 := congrArg Int32.toInt (ev9.trans (congrArg (fa 8 1) (show (v8 : Int32).toNatClampNeg = ((iv 8 5).toInt).toNat + 0 from (by show (v8 : Int32).toInt.toNat = _; omega)))); have q1 := congrArg Int32.toInt (ev16.trans (congrArg (fa 8 1) (show (v15 : Int32).toNatClampNeg = ((iv 8 5).toInt).toNat + 1 from (by show (v15 : Int32).toInt.toNat = _; omega)))); have q2 := congrArg Int32.toInt (ev23.trans (congrArg (fa 8 1) (show (v22 : Int32).toNatClampNeg = ((iv 8 5).toInt).toNat + 2 from (by show (v22 : Int32).toInt.toNat = _; omega)))); exact Or.inr ⟨by omega, fun h9 => (by have h8 : d.toInt - (iv 8 5).toInt = 4 ∧ (fa 8 1 (((iv 8 5).toInt).toNat + 0)).toInt = 110 ∧ (fa 8 1 (((iv 8 5).toInt).toNat + 1)).toInt = 97 ∧ (fa 8 1 (((iv 8 5).toInt).toNat + 2)).toInt = 109 ∧ (fa 8 1 (((iv 8 5).toInt).toNat + 3)).toInt = 101 := h9; omega)⟩))⟩, ht9⟩) (fun q hq => by cases hq) dX8_isSame_50
          · have fc17 := z_ne (by decide : (97 : Int32).toInt = 97) (rfl : (v16).toInt = _) c17
            refine lv_iconst (v := 0) hx hb dX8_isSame_49 (by decide) ?_
            have : (0 : Int32).toInt = 0 := (by decide)
            exact W.zret (v := 0) hx hb hr rfl (fun t ht9 hW => ⟨0, rfl, ⟨⟨by decide, by decide⟩, (show (((0 : Int32).toInt = 1 ∧ w_name (fun j => ((fa 8 1) j).toInt) ((iv 8 5) : Int32).toInt (d).toInt) ∨ ((0 : Int32).toInt = 0 ∧ ¬ w_name (fun j => ((fa 8 1) j).toInt) ((iv 8 5) : Int32).toInt (d).toInt)) from (by have q0 := congrArg Int32.toInt (ev9.trans (congrArg (fa 8 1) (show (v8 : Int32).toNatClampNeg = ((iv 8 5).toInt).toNat + 0 from (by show (v8 : Int32).toInt.toNat = _; omega)))); have q1 := congrArg Int32.toInt (ev16.trans (congrArg (fa 8 1) (show (v15 : Int32).toNatClampNeg = ((iv 8 5).toInt).toNat + 1 from (by show (v15 : Int32).toInt.toNat = _; omega)))); exact Or.inr ⟨by omega, fun h9 => (by have h8 : d.toInt - (iv 8 5).toInt = 4 ∧ (fa 8 1 (((iv 8 5).toInt).toNat + 0)).toInt = 110 ∧ (fa 8 1 (((iv 8 5).toInt).toNat + 1)).toInt = 97 ∧ (fa 8 1 (((iv 8 5).toInt).toNat + 2)).toInt = 109 ∧ (fa 8 1 (((iv 8 5).toInt).toNat + 3)).toInt = 101 := h9; omega)⟩))⟩, ht9⟩) (fun q hq => by cases hq) dX8_isSame_50
      · have fc10 := z_ne (by decide : (110 : Int32).toInt = 110) (rfl : (v9).toInt = _) c10
        refine lv_iconst (v := 0) hx hb dX8_isSame_49 (by decide) ?_
        have : (0 : Int32).toInt = 0 := (by decide)
        exact W.zret (v := 0) hx hb hr rfl (fun t ht9 hW => ⟨0, rfl, ⟨⟨by decide, by decide⟩, (show (((0 : Int32).toInt = 1 ∧ w_name (fun j => ((fa 8 1) j).toInt) ((iv 8 5) : Int32).toInt (d).toInt) ∨ ((0 : Int32).toInt = 0 ∧ ¬ w_name (fun j => ((fa 8 1) j).toInt) ((iv 8 5) : Int32).toInt (d).toInt)) from (by have q0 := congrArg Int32.toInt (ev9.trans (congrArg (fa 8 1) (show (v8 : Int32).toNatClampNeg = ((iv 8 5).toInt).toNat + 0 from (by show (v8 : Int32).toInt.toNat = _; omega)))); exact Or.inr ⟨by omega, fun h9 => (by have h8 : d.toInt - (iv 8 5).toInt = 4 ∧ (fa 8 1 (((iv 8 5).toInt).toNat + 0)).toInt = 110 ∧ (fa 8 1 (((iv 8 5).toInt).toNat + 1)).toInt = 97 ∧ (fa 8 1 (((iv 8 5).toInt).toNat + 2)).toInt = 109 ∧ (fa 8 1 (((iv 8 5).toInt).toNat + 3)).toInt = 101 := h9; omega)⟩))⟩, ht9⟩) (fun q hq => by cases hq) dX8_isSame_50
  · have fc3 := z_ne (by decide : (4 : Int32).toInt = 4) (rfl : (v2).toInt = _) c3
    refine lv_iconst (v := 0) hx hb dX8_isSame_13 (by decide) ?_
    have : (0 : Int32).toInt = 0 := (by decide)
    exact W.zret (v := 0) hx hb hr rfl (fun t ht9 hW => ⟨0, rfl, ⟨⟨by decide, by decide⟩, (show (((0 : Int32).toInt = 1 ∧ w_name (fun j => ((fa 8 1) j).toInt) ((iv 8 5) : Int32).toInt (d).toInt) ∨ ((0 : Int32).toInt = 0 ∧ ¬ w_name (fun j => ((fa 8 1) j).toInt) ((iv 8 5) : Int32).toInt (d).toInt)) from (by exact Or.inr ⟨by omega, fun h9 => (by have h8 : d.toInt - (iv 8 5).toInt = 4 ∧ (fa 8 1 (((iv 8 5).toInt).toNat + 0)).toInt = 110 ∧ (fa 8 1 (((iv 8 5).toInt).toNat + 1)).toInt = 97 ∧ (fa 8 1 (((iv 8 5).toInt).toNat + 2)).toInt = 109 ∧ (fa 8 1 (((iv 8 5).toInt).toNat + 3)).toInt = 101 := h9; omega)⟩))⟩, ht9⟩) (fun q hq => by cases hq) dX8_isSame_14
set_option maxHeartbeats 4000000 in
set_option maxRecDepth 100000 in
/-- X8_isSame -/
theorem c_X8_isSame_r0_14 (l : Launch) (dC : Nat → ClassId) (dI : Nat → Nat → Nat) (ak av : Nat → Nat) (h : Nat) (g : Nat → Nat → Nat) (ca : Nat → Nat → ClassId) (iv : Nat → Nat → Int32) (lv : Nat → Nat → Int64) (fa : Nat → Nat → Nat → Int32) (la : Nat → Nat → Nat → Int64) (hI : IX iv fa) (d : Int32) (h_d : 0 ≤ d.toInt ∧ d.toInt ≤ 200) : Met l yX8_isSame (wc yX8_isSame cX8_isSame 6 (some .boolean)) ({ frames := 4, cells := 0, slots := 0, locals := 85 } : Room) (pRZ ak av (dC, dI) classes (WX h g ca iv lv fa la) (TX ca) [.ref (g 11 4), .ref (ak 0), .int 14, .int 20, .int d]) (vp_Si (fun r => (0 ≤ r.toInt ∧ r.toInt ≤ 1) ∧ (((r.toInt = 1 ∧ w_strike (fun j => ((fa 8 1) j).toInt) (iv 8 5).toInt d.toInt) ∨ (r.toInt = 0 ∧ ¬ w_strike (fun j => ((fa 8 1) j).toInt) (iv 8 5).toInt d.toInt))))) 0 0 (fun _ => False) := by
  refine Met.ofW (cc := cX8_isSame) (maxL := 6) (ret := (some .boolean)) (by decide) rfl ?_
  intro p e s m args below meth c s₁ B hml hv
  obtain ⟨rfl, hP, hK, hZ⟩ := hv
  have hx := B.exec
  have hb := B.bytes
  have hr := B.returns
  have ht := tb_tl (atoms_spec (ws := wc yX8_isSame cX8_isSame 6 (some .boolean)) B.pre)
  have hown : s.vm.findClass RX8 = some m.cls := findClass_of_methodNamed B.named
  have hlocks := B.notSynchronized
  have hl := lv_entry [.ref (g 11 4), .ref (ak 0), .int 14, .int 20, .int d] (n := 6) (Nat.le_of_ble_eq_true rfl)
  rw [lg_entry_eq]
  generalize (lg_sl [.ref (g 11 4), .ref (ak 0), .int 14, .int 20, .int d] ++ List.replicate (6 - (lg_sl [.ref (g 11 4), .ref (ak 0), .int 14, .int 20, .int d]).length) Slot.unset).toArray = ls at hl ⊢
  have hl : lv_has ls 6 [(0, .ref (g 11 4)), (1, .ref (ak 0)), (2, .int 14), (3, .int 20), (4, .int d)] := hl
  refine lv_iload_n hx hb dX8_isSame_0 rfl (lv_at hl 3 rfl) ?_
  refine lv_iload_n hx hb dX8_isSame_1 rfl (lv_at hl 2 rfl) ?_
  refine lv_isub hx hb dX8_isSame_2 ?_
  refine lv_topi (fun v1 ev1 => ?_)
  obtain rfl : 6 = v1 := (ev1.trans (by decide)).symm
  refine lv_iload hx hb dX8_isSame_3 (lv_at hl 4 rfl) ?_
  refine lv_aload_n hx hb dX8_isSame_5 rfl (lv_at hl 0 rfl) ?_
  have i_8_5 : 0 ≤ (iv 8 5).toInt ∧ (iv 8 5).toInt ≤ 200 := hI.1 8 5
  refine gX_8_5 hx hb ht hown hK hP m_235 (v := (iv 8 5)) rfl dX8_isSame_6 ?_
  refine lv_isub hx hb dX8_isSame_9 ?_
  refine lv_topi (fun v2 ev2 => ?_)
  have tv2 := z_sub ev2 (rfl : (d).toInt = _) (rfl : ((iv 8 5)).toInt = _) (by omega) (by omega)
  refine lv_icmp_eq (tgt := 15) hx hb dX8_isSame_10 (by decide) (fun c3 => ?_) (fun c3 => ?_)
  · have fc3 := z_eq (by decide : (6 : Int32).toInt = 6) (rfl : (v2).toInt = _) c3
    refine lv_iconst (v := 0) hx hb dX8_isSame_15 (by decide) ?_
    refine lv_istore (lv' := [(5, .int 0), (0, .ref (g 11 4)), (1, .ref (ak 0)), (2, .int 14), (3, .int 20), (4, .int d)]) hx hb dX8_isSame_16 hl (by decide) rfl (fun ls hl => ?_)
    refine lv_iload hx hb dX8_isSame_18 (lv_at hl 0 rfl) ?_
    refine lv_iload_n hx hb dX8_isSame_20 rfl (lv_at hl 4 rfl) ?_
    refine lv_iload_n hx hb dX8_isSame_21 rfl (lv_at hl 3 rfl) ?_
    refine lv_isub hx hb dX8_isSame_22 ?_
    refine lv_topi (fun v4 ev4 => ?_)
    obtain rfl : 6 = v4 := (ev4.trans (by decide)).symm
    refine lv_icmp_ge (tgt := 57) hx hb dX8_isSame_23 (by decide) (fun c5 => ?_) (fun c5 => ?_)
    · exact absurd c5 (by decide)
    · skip
      refine lv_aload_n hx hb dX8_isSame_26 rfl (lv_at hl 2 rfl) ?_
      refine lv_iload_n hx hb dX8_isSame_27 rfl (lv_at hl 3 rfl) ?_
      refine lv_iload hx hb dX8_isSame_28 (lv_at hl 0 rfl) ?_
      refine lv_iadd hx hb dX8_isSame_30 ?_
      refine lv_topi (fun v6 ev6 => ?_)
      obtain rfl : 14 = v6 := (ev6.trans (by decide)).symm
      refine vp_callSi (W.runV (As := [.int 14]) (rest := []) ⟨hx, hb, hml, hown, ht⟩ (c_J0_charAt_5068e_0 l dC dI ak av 14 ⟨by decide, by decide⟩) (kV 1 ht m_715 m_716 m_717 m_91 m_718 rfl rfl hd_J0_charAt_5068e_v ⟨Nat.le_of_ble_eq_true rfl, Nat.le_of_ble_eq_true rfl⟩) (vRZ noP (hK.sub (tys' := []) [] rfl) hZ (vk_recv hZ.1.2.2.2.2.2 (i := 0) (by decide) va_S.rf)) rfl rfl hl.1 rfl (lv_room (Nat.le_of_ble_eq_true rfl)) dX8_isSame_31 ⟨Nat.le_of_ble_eq_true rfl, Nat.le_of_ble_eq_true rfl⟩) (fun r7 hr7 => ?_)
      obtain rfl : 115 = r7 := (hr7.trans (by decide)).symm
      refine lv_aload_n hx hb dX8_isSame_34 rfl (lv_at hl 1 rfl) ?_
      refine gX_8_1 hx hb ht hown hK hP m_229 dX8_isSame_35 ?_
      refine lv_aload_n hx hb dX8_isSame_38 rfl (lv_at hl 1 rfl) ?_
      refine gX_8_5 hx hb ht hown hK hP m_235 (v := (iv 8 5)) rfl dX8_isSame_39 ?_
      refine lv_iload hx hb dX8_isSame_42 (lv_at hl 0 rfl) ?_
      refine lv_iadd hx hb dX8_isSame_44 ?_
      refine lv_topi (fun v8 ev8 => ?_)
      have tv8 := z_add ev8 (rfl : ((iv 8 5)).toInt = _) (by decide : (0 : Int32).toInt = 0) (by omega) (by omega)
      have : 0 ≤ (v8 : Int32).toInt ∧ (v8 : Int32).toInt ≤ 199 := ⟨by omega, by omega⟩
      refine lX_8_1 hx hb hK hP (f := (fa 8 1)) rfl (vp_in_iff.mpr ⟨by omega, by omega⟩) dX8_isSame_45 ?_
      refine lv_topi (fun v9 ev9 => ?_)
      refine lv_icmp_eq (tgt := 51) hx hb dX8_isSame_46 (by decide) (fun c10 => ?_) (fun c10 => ?_)
      · have fc10 := z_eq (by decide : (115 : Int32).toInt = 115) (rfl : (v9).toInt = _) c10
        refine lv_iinc (v := 1) (lv' := [(5, .int 1), (0, .ref (g 11 4)), (1, .ref (ak 0)), (2, .int 14), (3, .int 20), (4, .int d)]) hx hb dX8_isSame_51 hl (k := 0) rfl (by decide) (by decide) rfl (fun ls hl => ?_)
        refine lv_goto (tgt := 18) hx hb dX8_isSame_54 (by decide) ?_
        refine lv_iload hx hb dX8_isSame_18 (lv_at hl 0 rfl) ?_
        refine lv_iload_n hx hb dX8_isSame_20 rfl (lv_at hl 4 rfl) ?_
        refine lv_iload_n hx hb dX8_isSame_21 rfl (lv_at hl 3 rfl) ?_
        refine lv_isub hx hb dX8_isSame_22 ?_
        refine lv_topi (fun v11 ev11 => ?_)
        obtain rfl : 6 = v11 := (ev11.trans (by decide)).symm
        refine lv_icmp_ge (tgt := 57) hx hb dX8_isSame_23 (by decide) (fun c12 => ?_) (fun c12 => ?_)
        · exact absurd c12 (by decide)
        · skip
          refine lv_aload_n hx hb dX8_isSame_26 rfl (lv_at hl 2 rfl) ?_
          refine lv_iload_n hx hb dX8_isSame_27 rfl (lv_at hl 3 rfl) ?_
          refine lv_iload hx hb dX8_isSame_28 (lv_at hl 0 rfl) ?_
          refine lv_iadd hx hb dX8_isSame_30 ?_
          refine lv_topi (fun v13 ev13 => ?_)
          obtain rfl : 15 = v13 := (ev13.trans (by decide)).symm
          refine vp_callSi (W.runV (As := [.int 15]) (rest := []) ⟨hx, hb, hml, hown, ht⟩ (c_J0_charAt_5068e_0 l dC dI ak av 15 ⟨by decide, by decide⟩) (kV 1 ht m_715 m_716 m_717 m_91 m_718 rfl rfl hd_J0_charAt_5068e_v ⟨Nat.le_of_ble_eq_true rfl, Nat.le_of_ble_eq_true rfl⟩) (vRZ noP (hK.sub (tys' := []) [] rfl) hZ (vk_recv hZ.1.2.2.2.2.2 (i := 0) (by decide) va_S.rf)) rfl rfl hl.1 rfl (lv_room (Nat.le_of_ble_eq_true rfl)) dX8_isSame_31 ⟨Nat.le_of_ble_eq_true rfl, Nat.le_of_ble_eq_true rfl⟩) (fun r14 hr14 => ?_)
          obtain rfl : 116 = r14 := (hr14.trans (by decide)).symm
          refine lv_aload_n hx hb dX8_isSame_34 rfl (lv_at hl 1 rfl) ?_
          refine gX_8_1 hx hb ht hown hK hP m_229 dX8_isSame_35 ?_
          refine lv_aload_n hx hb dX8_isSame_38 rfl (lv_at hl 1 rfl) ?_
          refine gX_8_5 hx hb ht hown hK hP m_235 (v := (iv 8 5)) rfl dX8_isSame_39 ?_
          refine lv_iload hx hb dX8_isSame_42 (lv_at hl 0 rfl) ?_
          refine lv_iadd hx hb dX8_isSame_44 ?_
          refine lv_topi (fun v15 ev15 => ?_)
          have tv15 := z_add ev15 (rfl : ((iv 8 5)).toInt = _) (by decide : (1 : Int32).toInt = 1) (by omega) (by omega)
          have : 0 ≤ (v15 : Int32).toInt ∧ (v15 : Int32).toInt ≤ 199 := ⟨by omega, by omega⟩
          refine lX_8_1 hx hb hK hP (f := (fa 8 1)) rfl (vp_in_iff.mpr ⟨by omega, by omega⟩) dX8_isSame_45 ?_
          refine lv_topi (fun v16 ev16 => ?_)
          refine lv_icmp_eq (tgt := 51) hx hb dX8_isSame_46 (by decide) (fun c17 => ?_) (fun c17 => ?_)
          · have fc17 := z_eq (by decide : (116 : Int32).toInt = 116) (rfl : (v16).toInt = _) c17
            refine lv_iinc (v := 2) (lv' := [(5, .int 2), (0, .ref (g 11 4)), (1, .ref (ak 0)), (2, .int 14), (3, .int 20), (4, .int d)]) hx hb dX8_isSame_51 hl (k := 0) rfl (by decide) (by decide) rfl (fun ls hl => ?_)
            refine lv_goto (tgt := 18) hx hb dX8_isSame_54 (by decide) ?_
            refine lv_iload hx hb dX8_isSame_18 (lv_at hl 0 rfl) ?_
            refine lv_iload_n hx hb dX8_isSame_20 rfl (lv_at hl 4 rfl) ?_
            refine lv_iload_n hx hb dX8_isSame_21 rfl (lv_at hl 3 rfl) ?_
            refine lv_isub hx hb dX8_isSame_22 ?_
            refine lv_topi (fun v18 ev18 => ?_)
            obtain rfl : 6 = v18 := (ev18.trans (by decide)).symm
            refine lv_icmp_ge (tgt := 57) hx hb dX8_isSame_23 (by decide) (fun c19 => ?_) (fun c19 => ?_)
            · exact absurd c19 (by decide)
            · skip
              refine lv_aload_n hx hb dX8_isSame_26 rfl (lv_at hl 2 rfl) ?_
              refine lv_iload_n hx hb dX8_isSame_27 rfl (lv_at hl 3 rfl) ?_
              refine lv_iload hx hb dX8_isSame_28 (lv_at hl 0 rfl) ?_
              refine lv_iadd hx hb dX8_isSame_30 ?_
              refine lv_topi (fun v20 ev20 => ?_)
              obtain rfl : 16 = v20 := (ev20.trans (by decide)).symm
              refine vp_callSi (W.runV (As := [.int 16]) (rest := []) ⟨hx, hb, hml, hown, ht⟩ (c_J0_charAt_5068e_0 l dC dI ak av 16 ⟨by decide, by decide⟩) (kV 1 ht m_715 m_716 m_717 m_91 m_718 rfl rfl hd_J0_charAt_5068e_v ⟨Nat.le_of_ble_eq_true rfl, Nat.le_of_ble_eq_true rfl⟩) (vRZ noP (hK.sub (tys' := []) [] rfl) hZ (vk_recv hZ.1.2.2.2.2.2 (i := 0) (by decide) va_S.rf)) rfl rfl hl.1 rfl (lv_room (Nat.le_of_ble_eq_true rfl)) dX8_isSame_31 ⟨Nat.le_of_ble_eq_true rfl, Nat.le_of_ble_eq_true rfl⟩) (fun r21 hr21 => ?_)
              obtain rfl : 114 = r21 := (hr21.trans (by decide)).symm
              refine lv_aload_n hx hb dX8_isSame_34 rfl (lv_at hl 1 rfl) ?_
              refine gX_8_1 hx hb ht hown hK hP m_229 dX8_isSame_35 ?_
              refine lv_aload_n hx hb dX8_isSame_38 rfl (lv_at hl 1 rfl) ?_
              refine gX_8_5 hx hb ht hown hK hP m_235 (v := (iv 8 5)) rfl dX8_isSame_39 ?_
              refine lv_iload hx hb dX8_isSame_42 (lv_at hl 0 rfl) ?_
              refine lv_iadd hx hb dX8_isSame_44 ?_
              refine lv_topi (fun v22 ev22 => ?_)
              have tv22 := z_add ev22 (rfl : ((iv 8 5)).toInt = _) (by decide : (2 : Int32).toInt = 2) (by omega) (by omega)
              have : 0 ≤ (v22 : Int32).toInt ∧ (v22 : Int32).toInt ≤ 199 := ⟨by omega, by omega⟩
              refine lX_8_1 hx hb hK hP (f := (fa 8 1)) rfl (vp_in_iff.mpr ⟨by omega, by omega⟩) dX8_isSame_45 ?_
              refine lv_topi (fun v23 ev23 => ?_)
              refine lv_icmp_eq (tgt := 51) hx hb dX8_isSame_46 (by decide) (fun c24 => ?_) (fun c24 => ?_)
              · have fc24 := z_eq (by decide : (114 : Int32).toInt = 114) (rfl : (v23).toInt = _) c24
                refine lv_iinc (v := 3) (lv' := [(5, .int 3), (0, .ref (g 11 4)), (1, .ref (ak 0)), (2, .int 14), (3, .int 20), (4, .int d)]) hx hb dX8_isSame_51 hl (k := 0) rfl (by decide) (by decide) rfl (fun ls hl => ?_)
                refine lv_goto (tgt := 18) hx hb dX8_isSame_54 (by decide) ?_
                refine lv_iload hx hb dX8_isSame_18 (lv_at hl 0 rfl) ?_
                refine lv_iload_n hx hb dX8_isSame_20 rfl (lv_at hl 4 rfl) ?_
                refine lv_iload_n hx hb dX8_isSame_21 rfl (lv_at hl 3 rfl) ?_
                refine lv_isub hx hb dX8_isSame_22 ?_
                refine lv_topi (fun v25 ev25 => ?_)
                obtain rfl : 6 = v25 := (ev25.trans (by decide)).symm
                refine lv_icmp_ge (tgt := 57) hx hb dX8_isSame_23 (by decide) (fun c26 => ?_) (fun c26 => ?_)
                · exact absurd c26 (by decide)
                · skip
                  refine lv_aload_n hx hb dX8_isSame_26 rfl (lv_at hl 2 rfl) ?_
                  refine lv_iload_n hx hb dX8_isSame_27 rfl (lv_at hl 3 rfl) ?_
                  refine lv_iload hx hb dX8_isSame_28 (lv_at hl 0 rfl) ?_
                  refine lv_iadd hx hb dX8_isSame_30 ?_
                  refine lv_topi (fun v27 ev27 => ?_)
                  obtain rfl : 17 = v27 := (ev27.trans (by decide)).symm
                  refine vp_callSi (W.runV (As := [.int 17]) (rest := []) ⟨hx, hb, hml, hown, ht⟩ (c_J0_charAt_5068e_0 l dC dI ak av 17 ⟨by decide, by decide⟩) (kV 1 ht m_715 m_716 m_717 m_91 m_718 rfl rfl hd_J0_charAt_5068e_v ⟨Nat.le_of_ble_eq_true rfl, Nat.le_of_ble_eq_true rfl⟩) (vRZ noP (hK.sub (tys' := []) [] rfl) hZ (vk_recv hZ.1.2.2.2.2.2 (i := 0) (by decide) va_S.rf)) rfl rfl hl.1 rfl (lv_room (Nat.le_of_ble_eq_true rfl)) dX8_isSame_31 ⟨Nat.le_of_ble_eq_true rfl, Nat.le_of_ble_eq_true rfl⟩) (fun r28 hr28 => ?_)
                  obtain rfl : 105 = r28 := (hr28.trans (by decide)).symm
                  refine lv_aload_n hx hb dX8_isSame_34 rfl (lv_at hl 1 rfl) ?_
                  refine gX_8_1 hx hb ht hown hK hP m_229 dX8_isSame_35 ?_
                  refine lv_aload_n hx hb dX8_isSame_38 rfl (lv_at hl 1 rfl) ?_
                  refine gX_8_5 hx hb ht hown hK hP m_235 (v := (iv 8 5)) rfl dX8_isSame_39 ?_
                  refine lv_iload hx hb dX8_isSame_42 (lv_at hl 0 rfl) ?_
                  refine lv_iadd hx hb dX8_isSame_44 ?_
                  refine lv_topi (fun v29 ev29 => ?_)
                  have tv29 := z_add ev29 (rfl : ((iv 8 5)).toInt = _) (by decide : (3 : Int32).toInt = 3) (by omega) (by omega)
                  have : 0 ≤ (v29 : Int32).toInt ∧ (v29 : Int32).toInt ≤ 199 := ⟨by omega, by omega⟩
                  refine lX_8_1 hx hb hK hP (f := (fa 8 1)) rfl (vp_in_iff.mpr ⟨by omega, by omega⟩) dX8_isSame_45 ?_
                  refine lv_topi (fun v30 ev30 => ?_)
                  refine lv_icmp_eq (tgt := 51) hx hb dX8_isSame_46 (by decide) (fun c31 => ?_) (fun c31 => ?_)
                  · have fc31 := z_eq (by decide : (105 : Int32).toInt = 105) (rfl : (v30).toInt = _) c31
                    refine lv_iinc (v := 4) (lv' := [(5, .int 4), (0, .ref (g 11 4)), (1, .ref (ak 0)), (2, .int 14), (3, .int 20), (4, .int d)]) hx hb dX8_isSame_51 hl (k := 0) rfl (by decide) (by decide) rfl (fun ls hl => ?_)
                    refine lv_goto (tgt := 18) hx hb dX8_isSame_54 (by decide) ?_
                    refine lv_iload hx hb dX8_isSame_18 (lv_at hl 0 rfl) ?_
                    refine lv_iload_n hx hb dX8_isSame_20 rfl (lv_at hl 4 rfl) ?_
                    refine lv_iload_n hx hb dX8_isSame_21 rfl (lv_at hl 3 rfl) ?_
                    refine lv_isub hx hb dX8_isSame_22 ?_
                    refine lv_topi (fun v32 ev32 => ?_)
                    obtain rfl : 6 = v32 := (ev32.trans (by decide)).symm
                    refine lv_icmp_ge (tgt := 57) hx hb dX8_isSame_23 (by decide) (fun c33 => ?_) (fun c33 => ?_)
                    · exact absurd c33 (by decide)
                    · skip
                      refine lv_aload_n hx hb dX8_isSame_26 rfl (lv_at hl 2 rfl) ?_
                      refine lv_iload_n hx hb dX8_isSame_27 rfl (lv_at hl 3 rfl) ?_
                      refine lv_iload hx hb dX8_isSame_28 (lv_at hl 0 rfl) ?_
                      refine lv_iadd hx hb dX8_isSame_30 ?_
                      refine lv_topi (fun v34 ev34 => ?_)
                      obtain rfl : 18 = v34 := (ev34.trans (by decide)).symm
                      refine vp_callSi (W.runV (As := [.int 18]) (rest := []) ⟨hx, hb, hml, hown, ht⟩ (c_J0_charAt_5068e_0 l dC dI ak av 18 ⟨by decide, by decide⟩) (kV 1 ht m_715 m_716 m_717 m_91 m_718 rfl rfl hd_J0_charAt_5068e_v ⟨Nat.le_of_ble_eq_true rfl, Nat.le_of_ble_eq_true rfl⟩) (vRZ noP (hK.sub (tys' := []) [] rfl) hZ (vk_recv hZ.1.2.2.2.2.2 (i := 0) (by decide) va_S.rf)) rfl rfl hl.1 rfl (lv_room (Nat.le_of_ble_eq_true rfl)) dX8_isSame_31 ⟨Nat.le_of_ble_eq_true rfl, Nat.le_of_ble_eq_true rfl⟩) (fun r35 hr35 => ?_)
                      obtain rfl : 107 = r35 := (hr35.trans (by decide)).symm
                      refine lv_aload_n hx hb dX8_isSame_34 rfl (lv_at hl 1 rfl) ?_
                      refine gX_8_1 hx hb ht hown hK hP m_229 dX8_isSame_35 ?_
                      refine lv_aload_n hx hb dX8_isSame_38 rfl (lv_at hl 1 rfl) ?_
                      refine gX_8_5 hx hb ht hown hK hP m_235 (v := (iv 8 5)) rfl dX8_isSame_39 ?_
                      refine lv_iload hx hb dX8_isSame_42 (lv_at hl 0 rfl) ?_
                      refine lv_iadd hx hb dX8_isSame_44 ?_
                      refine lv_topi (fun v36 ev36 => ?_)
                      have tv36 := z_add ev36 (rfl : ((iv 8 5)).toInt = _) (by decide : (4 : Int32).toInt = 4) (by omega) (by omega)
                      have : 0 ≤ (v36 : Int32).toInt ∧ (v36 : Int32).toInt ≤ 199 := ⟨by omega, by omega⟩
                      refine lX_8_1 hx hb hK hP (f := (fa 8 1)) rfl (vp_in_iff.mpr ⟨by omega, by omega⟩) dX8_isSame_45 ?_
                      refine lv_topi (fun v37 ev37 => ?_)
                      refine lv_icmp_eq (tgt := 51) hx hb dX8_isSame_46 (by decide) (fun c38 => ?_) (fun c38 => ?_)
                      · have fc38 := z_eq (by decide : (107 : Int32).toInt = 107) (rfl : (v37).toInt = _) c38
                        refine lv_iinc (v := 5) (lv' := [(5, .int 5), (0, .ref (g 11 4)), (1, .ref (ak 0)), (2, .int 14), (3, .int 20), (4, .int d)]) hx hb dX8_isSame_51 hl (k := 0) rfl (by decide) (by decide) rfl (fun ls hl => ?_)
                        refine lv_goto (tgt := 18) hx hb dX8_isSame_54 (by decide) ?_
                        refine lv_iload hx hb dX8_isSame_18 (lv_at hl 0 rfl) ?_
                        refine lv_iload_n hx hb dX8_isSame_20 rfl (lv_at hl 4 rfl) ?_
                        refine lv_iload_n hx hb dX8_isSame_21 rfl (lv_at hl 3 rfl) ?_
                        refine lv_isub hx hb dX8_isSame_22 ?_
                        refine lv_topi (fun v39 ev39 => ?_)
                        obtain rfl : 6 = v39 := (ev39.trans (by decide)).symm
                        refine lv_icmp_ge (tgt := 57) hx hb dX8_isSame_23 (by decide) (fun c40 => ?_) (fun c40 => ?_)
                        · exact absurd c40 (by decide)
                        · skip
                          refine lv_aload_n hx hb dX8_isSame_26 rfl (lv_at hl 2 rfl) ?_
                          refine lv_iload_n hx hb dX8_isSame_27 rfl (lv_at hl 3 rfl) ?_
                          refine lv_iload hx hb dX8_isSame_28 (lv_at hl 0 rfl) ?_
                          refine lv_iadd hx hb dX8_isSame_30 ?_
                          refine lv_topi (fun v41 ev41 => ?_)
                          obtain rfl : 19 = v41 := (ev41.trans (by decide)).symm
                          refine vp_callSi (W.runV (As := [.int 19]) (rest := []) ⟨hx, hb, hml, hown, ht⟩ (c_J0_charAt_5068e_0 l dC dI ak av 19 ⟨by decide, by decide⟩) (kV 1 ht m_715 m_716 m_717 m_91 m_718 rfl rfl hd_J0_charAt_5068e_v ⟨Nat.le_of_ble_eq_true rfl, Nat.le_of_ble_eq_true rfl⟩) (vRZ noP (hK.sub (tys' := []) [] rfl) hZ (vk_recv hZ.1.2.2.2.2.2 (i := 0) (by decide) va_S.rf)) rfl rfl hl.1 rfl (lv_room (Nat.le_of_ble_eq_true rfl)) dX8_isSame_31 ⟨Nat.le_of_ble_eq_true rfl, Nat.le_of_ble_eq_true rfl⟩) (fun r42 hr42 => ?_)
                          obtain rfl : 101 = r42 := (hr42.trans (by decide)).symm
                          refine lv_aload_n hx hb dX8_isSame_34 rfl (lv_at hl 1 rfl) ?_
                          refine gX_8_1 hx hb ht hown hK hP m_229 dX8_isSame_35 ?_
                          refine lv_aload_n hx hb dX8_isSame_38 rfl (lv_at hl 1 rfl) ?_
                          refine gX_8_5 hx hb ht hown hK hP m_235 (v := (iv 8 5)) rfl dX8_isSame_39 ?_
                          refine lv_iload hx hb dX8_isSame_42 (lv_at hl 0 rfl) ?_
                          refine lv_iadd hx hb dX8_isSame_44 ?_
                          refine lv_topi (fun v43 ev43 => ?_)
                          have tv43 := z_add ev43 (rfl : ((iv 8 5)).toInt = _) (by decide : (5 : Int32).toInt = 5) (by omega) (by omega)
                          have : 0 ≤ (v43 : Int32).toInt ∧ (v43 : Int32).toInt ≤ 199 := ⟨by omega, by omega⟩
                          refine lX_8_1 hx hb hK hP (f := (fa 8 1)) rfl (vp_in_iff.mpr ⟨by omega, by omega⟩) dX8_isSame_45 ?_
                          refine lv_topi (fun v44 ev44 => ?_)
                          refine lv_icmp_eq (tgt := 51) hx hb dX8_isSame_46 (by decide) (fun c45 => ?_) (fun c45 => ?_)
                          · have fc45 := z_eq (by decide : (101 : Int32).toInt = 101) (rfl : (v44).toInt = _) c45
                            refine lv_iinc (v := 6) (lv' := [(5, .int 6), (0, .ref (g 11 4)), (1, .ref (ak 0)), (2, .int 14), (3, .int 20), (4, .int d)]) hx hb dX8_isSame_51 hl (k := 0) rfl (by decide) (by decide) rfl (fun ls hl => ?_)
                            refine lv_goto (tgt := 18) hx hb dX8_isSame_54 (by decide) ?_
                            refine lv_iload hx hb dX8_isSame_18 (lv_at hl 0 rfl) ?_
                            refine lv_iload_n hx hb dX8_isSame_20 rfl (lv_at hl 4 rfl) ?_
                            refine lv_iload_n hx hb dX8_isSame_21 rfl (lv_at hl 3 rfl) ?_
                            refine lv_isub hx hb dX8_isSame_22 ?_
                            refine lv_topi (fun v46 ev46 => ?_)
                            obtain rfl : 6 = v46 := (ev46.trans (by decide)).symm
                            refine lv_icmp_ge (tgt := 57) hx hb dX8_isSame_23 (by decide) (fun c47 => ?_) (fun c47 => ?_)
                            · skip
                              refine lv_iconst (v := 1) hx hb dX8_isSame_57 (by decide) ?_
                              have : (1 : Int32).toInt = 1 := (by decide)
                              exact W.zret (v := 1) hx hb hr rfl (fun t ht9 hW => ⟨1, rfl, ⟨⟨by decide, by decide⟩, (show (((1 : Int32).toInt = 1 ∧ w_strike (fun j => ((fa 8 1) j).toInt) ((iv 8 5) : Int32).toInt (d).toInt) ∨ ((1 : Int32).toInt = 0 ∧ ¬ w_strike (fun j => ((fa 8 1) j).toInt) ((iv 8 5) : Int32).toInt (d).toInt)) from (by have q0 := congrArg Int32.toInt (ev9.trans (congrArg (fa 8 1) (show (v8 : Int32).toNatClampNeg = ((iv 8 5).toInt).toNat + 0 from (by show (v8 : Int32).toInt.toNat = _; omega)))); have q1 := congrArg Int32.toInt (ev16.trans (congrArg (fa 8 1) (show (v15 : Int32).toNatClampNeg = ((iv 8 5).toInt).toNat + 1 from (by show (v15 : Int32).toInt.toNat = _; omega)))); have q2 := congrArg Int32.toInt (ev23.trans (congrArg (fa 8 1) (show (v22 : Int32).toNatClampNeg = ((iv 8 5).toInt).toNat + 2 from (by show (v22 : Int32).toInt.toNat = _; omega)))); have q3 := congrArg Int32.toInt (ev30.trans (congrArg (fa 8 1) (show (v29 : Int32).toNatClampNeg = ((iv 8 5).toInt).toNat + 3 from (by show (v29 : Int32).toInt.toNat = _; omega)))); have q4 := congrArg Int32.toInt (ev37.trans (congrArg (fa 8 1) (show (v36 : Int32).toNatClampNeg = ((iv 8 5).toInt).toNat + 4 from (by show (v36 : Int32).toInt.toNat = _; omega)))); have q5 := congrArg Int32.toInt (ev44.trans (congrArg (fa 8 1) (show (v43 : Int32).toNatClampNeg = ((iv 8 5).toInt).toNat + 5 from (by show (v43 : Int32).toInt.toNat = _; omega)))); exact Or.inl ⟨by omega, (show d.toInt - (iv 8 5).toInt = 6 ∧ (fa 8 1 (((iv 8 5).toInt).toNat + 0)).toInt = 115 ∧ (fa 8 1 (((iv 8 5).toInt).toNat + 1)).toInt = 116 ∧ (fa 8 1 (((iv 8 5).toInt).toNat + 2)).toInt = 114 ∧ (fa 8 1 (((iv 8 5).toInt).toNat + 3)).toInt = 105 ∧ (fa 8 1 (((iv 8 5).toInt).toNat + 4)).toInt = 107 ∧ (fa 8 1 (((iv 8 5).toInt).toNat + 5)).toInt = 101 from ⟨by omega, by omega, by omega, by omega, by omega, by omega, by omega⟩)⟩))⟩, ht9⟩) (fun q hq => by cases hq) dX8_isSame_58
                            · exact absurd c47 (by decide)
                          · have fc45 := z_ne (by decide : (101 : Int32).toInt = 101) (rfl : (v44).toInt = _) c45
                            refine lv_iconst (v := 0) hx hb dX8_isSame_49 (by decide) ?_
                            have : (0 : Int32).toInt = 0 := (by decide)
                            exact W.zret (v := 0) hx hb hr rfl (fun t ht9 hW => ⟨0, rfl, ⟨⟨by decide, by decide⟩, (show (((0 : Int32).toInt = 1 ∧ w_strike (fun j => ((fa 8 1) j).toInt) ((iv 8 5) : Int32).toInt (d).toInt) ∨ ((0 : Int32).toInt = 0 ∧ ¬ w_strike (fun j => ((fa 8 1) j).toInt) ((iv 8 5) : Int32).toInt (d).toInt)) from (by have q0 := congrArg Int32.toInt (ev9.trans (congrArg (fa 8 1) (show (v8 : Int32).toNatClampNeg = ((iv 8 5).toInt).toNat + 0 from (by show (v8 : Int32).toInt.toNat = _; omega)))); have q1 := congrArg Int32.toInt (ev16.trans (congrArg (fa 8 1) (show (v15 : Int32).toNatClampNeg = ((iv 8 5).toInt).toNat + 1 from (by show (v15 : Int32).toInt.toNat = _; omega)))); have q2 := congrArg Int32.toInt (ev23.trans (congrArg (fa 8 1) (show (v22 : Int32).toNatClampNeg = ((iv 8 5).toInt).toNat + 2 from (by show (v22 : Int32).toInt.toNat = _; omega)))); have q3 := congrArg Int32.toInt (ev30.trans (congrArg (fa 8 1) (show (v29 : Int32).toNatClampNeg = ((iv 8 5).toInt).toNat + 3 from (by show (v29 : Int32).toInt.toNat = _; omega)))); have q4 := congrArg Int32.toInt (ev37.trans (congrArg (fa 8 1) (show (v36 : Int32).toNatClampNeg = ((iv 8 5).toInt).toNat + 4 from (by show (v36 : Int32).toInt.toNat = _; omega)))); have q5 := congrArg Int32.toInt (ev44.trans (congrArg (fa 8 1) (show (v43 : Int32).toNatClampNeg = ((iv 8 5).toInt).toNat + 5 from (by show (v43 : Int32).toInt.toNat = _; omega)))); exact Or.inr ⟨by omega, fun h9 => (by have h8 : d.toInt - (iv 8 5).toInt = 6 ∧ (fa 8 1 (((iv 8 5).toInt).toNat + 0)).toInt = 115 ∧ (fa 8 1 (((iv 8 5).toInt).toNat + 1)).toInt = 116 ∧ (fa 8 1 (((iv 8 5).toInt).toNat + 2)).toInt = 114 ∧ (fa 8 1 (((iv 8 5).toInt).toNat + 3)).toInt = 105 ∧ (fa 8 1 (((iv 8 5).toInt).toNat + 4)).toInt = 107 ∧ (fa 8 1 (((iv 8 5).toInt).toNat + 5)).toInt = 101 := h9; omega)⟩))⟩, ht9⟩) (fun q hq => by cases hq) dX8_isSame_50
                      · have fc38 := z_ne (by decide : (107 : Int32).toInt = 107) (rfl : (v37).toInt = _) c38
                        refine lv_iconst (v := 0) hx hb dX8_isSame_49 (by decide) ?_
                        have : (0 : Int32).toInt = 0 := (by decide)
                        exact W.zret (v := 0) hx hb hr rfl (fun t ht9 hW => ⟨0, rfl, ⟨⟨by decide, by decide⟩, (show (((0 : Int32).toInt = 1 ∧ w_strike (fun j => ((fa 8 1) j).toInt) ((iv 8 5) : Int32).toInt (d).toInt) ∨ ((0 : Int32).toInt = 0 ∧ ¬ w_strike (fun j => ((fa 8 1) j).toInt) ((iv 8 5) : Int32).toInt (d).toInt)) from (by have q0 := congrArg Int32.toInt (ev9.trans (congrArg (fa 8 1) (show (v8 : Int32).toNatClampNeg = ((iv 8 5).toInt).toNat + 0 from (by show (v8 : Int32).toInt.toNat = _; omega)))); have q1 := congrArg Int32.toInt (ev16.trans (congrArg (fa 8 1) (show (v15 : Int32).toNatClampNeg = ((iv 8 5).toInt).toNat + 1 from (by show (v15 : Int32).toInt.toNat = _; omega)))); have q2 := congrArg Int32.toInt (ev23.trans (congrArg (fa 8 1) (show (v22 : Int32).toNatClampNeg = ((iv 8 5).toInt).toNat + 2 from (by show (v22 : Int32).toInt.toNat = _; omega)))); have q3 := congrArg Int32.toInt (ev30.trans (congrArg (fa 8 1) (show (v29 : Int32).toNatClampNeg = ((iv 8 5).toInt).toNat + 3 from (by show (v29 : Int32).toInt.toNat = _; omega)))); have q4 := congrArg Int32.toInt (ev37.trans (congrArg (fa 8 1) (show (v36 : Int32).toNatClampNeg = ((iv 8 5).toInt).toNat + 4 from (by show (v36 : Int32).toInt.toNat = _; omega)))); exact Or.inr ⟨by omega, fun h9 => (by have h8 : d.toInt - (iv 8 5).toInt = 6 ∧ (fa 8 1 (((iv 8 5).toInt).toNat + 0)).toInt = 115 ∧ (fa 8 1 (((iv 8 5).toInt).toNat + 1)).toInt = 116 ∧ (fa 8 1 (((iv 8 5).toInt).toNat + 2)).toInt = 114 ∧ (fa 8 1 (((iv 8 5).toInt).toNat + 3)).toInt = 105 ∧ (fa 8 1 (((iv 8 5).toInt).toNat + 4)).toInt = 107 ∧ (fa 8 1 (((iv 8 5).toInt).toNat + 5)).toInt = 101 := h9; omega)⟩))⟩, ht9⟩) (fun q hq => by cases hq) dX8_isSame_50
                  · have fc31 := z_ne (by decide : (105 : Int32).toInt = 105) (rfl : (v30).toInt = _) c31
                    refine lv_iconst (v := 0) hx hb dX8_isSame_49 (by decide) ?_
                    have : (0 : Int32).toInt = 0 := (by decide)
                    exact W.zret (v := 0) hx hb hr rfl (fun t ht9 hW => ⟨0, rfl, ⟨⟨by decide, by decide⟩, (show (((0 : Int32).toInt = 1 ∧ w_strike (fun j => ((fa 8 1) j).toInt) ((iv 8 5) : Int32).toInt (d).toInt) ∨ ((0 : Int32).toInt = 0 ∧ ¬ w_strike (fun j => ((fa 8 1) j).toInt) ((iv 8 5) : Int32).toInt (d).toInt)) from (by have q0 := congrArg Int32.toInt (ev9.trans (congrArg (fa 8 1) (show (v8 : Int32).toNatClampNeg = ((iv 8 5).toInt).toNat + 0 from (by show (v8 : Int32).toInt.toNat = _; omega)))); have q1 := congrArg Int32.toInt (ev16.trans (congrArg (fa 8 1) (show (v15 : Int32).toNatClampNeg = ((iv 8 5).toInt).toNat + 1 from (by show (v15 : Int32).toInt.toNat = _; omega)))); have q2 := congrArg Int32.toInt (ev23.trans (congrArg (fa 8 1) (show (v22 : Int32).toNatClampNeg = ((iv 8 5).toInt).toNat + 2 from (by show (v22 : Int32).toInt.toNat = _; omega)))); have q3 := congrArg Int32.toInt (ev30.trans (congrArg (fa 8 1) (show (v29 : Int32).toNatClampNeg = ((iv 8 5).toInt).toNat + 3 from (by show (v29 : Int32).toInt.toNat = _; omega)))); exact Or.inr ⟨by omega, fun h9 => (by have h8 : d.toInt - (iv 8 5).toInt = 6 ∧ (fa 8 1 (((iv 8 5).toInt).toNat + 0)).toInt = 115 ∧ (fa 8 1 (((iv 8 5).toInt).toNat + 1)).toInt = 116 ∧ (fa 8 1 (((iv 8 5).toInt).toNat + 2)).toInt = 114 ∧ (fa 8 1 (((iv 8 5).toInt).toNat + 3)).toInt = 105 ∧ (fa 8 1 (((iv 8 5).toInt).toNat + 4)).toInt = 107 ∧ (fa 8 1 (((iv 8 5).toInt).toNat + 5)).toInt = 101 := h9; omega)⟩))⟩, ht9⟩) (fun q hq => by cases hq) dX8_isSame_50
              · have fc24 := z_ne (by decide : (114 : Int32).toInt = 114) (rfl : (v23).toInt = _) c24
                refine lv_iconst (v := 0) hx hb dX8_isSame_49 (by decide) ?_
                have : (0 : Int32).toInt = 0 := (by decide)
                exact W.zret (v := 0) hx hb hr rfl (fun t ht9 hW => ⟨0, rfl, ⟨⟨by decide, by decide⟩, (show (((0 : Int32).toInt = 1 ∧ w_strike (fun j => ((fa 8 1) j).toInt) ((iv 8 5) : Int32).toInt (d).toInt) ∨ ((0 : Int32).toInt = 0 ∧ ¬ w_strike (fun j => ((fa 8 1) j).toInt) ((iv 8 5) : Int32).toInt (d).toInt)) from (by have q0 := congrArg Int32.toInt (ev9.trans (congrArg (fa 8 1) (show (v8 : Int32).toNatClampNeg = ((iv 8 5).toInt).toNat + 0 from (by show (v8 : Int32).toInt.toNat = _; omega)))); have q1 := congrArg Int32.toInt (ev16.trans (congrArg (fa 8 1) (show (v15 : Int32).toNatClampNeg = ((iv 8 5).toInt).toNat + 1 from (by show (v15 : Int32).toInt.toNat = _; omega)))); have q2 := congrArg Int32.toInt (ev23.trans (congrArg (fa 8 1) (show (v22 : Int32).toNatClampNeg = ((iv 8 5).toInt).toNat + 2 from (by show (v22 : Int32).toInt.toNat = _; omega)))); exact Or.inr ⟨by omega, fun h9 => (by have h8 : d.toInt - (iv 8 5).toInt = 6 ∧ (fa 8 1 (((iv 8 5).toInt).toNat + 0)).toInt = 115 ∧ (fa 8 1 (((iv 8 5).toInt).toNat + 1)).toInt = 116 ∧ (fa 8 1 (((iv 8 5).toInt).toNat + 2)).toInt = 114 ∧ (fa 8 1 (((iv 8 5).toInt).toNat + 3)).toInt = 105 ∧ (fa 8 1 (((iv 8 5).toInt).toNat + 4)).toInt = 107 ∧ (fa 8 1 (((iv 8 5).toInt).toNat + 5)).toInt = 101 := h9; omega)⟩))⟩, ht9⟩) (fun q hq => by cases hq) dX8_isSame_50
          · have fc17 := z_ne (by decide : (116 : Int32).toInt = 116) (rfl : (v16).toInt = _) c17
            refine lv_iconst (v := 0) hx hb dX8_isSame_49 (by decide) ?_
            have : (0 : Int32).toInt = 0 := (by decide)
            exact W.zret (v := 0) hx hb hr rfl (fun t ht9 hW => ⟨0, rfl, ⟨⟨by decide, by decide⟩, (show (((0 : Int32).toInt = 1 ∧ w_strike (fun j => ((fa 8 1) j).toInt) ((iv 8 5) : Int32).toInt (d).toInt) ∨ ((0 : Int32).toInt = 0 ∧ ¬ w_strike (fun j => ((fa 8 1) j).toInt) ((iv 8 5) : Int32).toInt (d).toInt)) from (by have q0 := congrArg Int32.toInt (ev9.trans (congrArg (fa 8 1) (show (v8 : Int32).toNatClampNeg = ((iv 8 5).toInt).toNat + 0 from (by show (v8 : Int32).toInt.toNat = _; omega)))); have q1 := congrArg Int32.toInt (ev16.trans (congrArg (fa 8 1) (show (v15 : Int32).toNatClampNeg = ((iv 8 5).toInt).toNat + 1 from (by show (v15 : Int32).toInt.toNat = _; omega)))); exact Or.inr ⟨by omega, fun h9 => (by have h8 : d.toInt - (iv 8 5).toInt = 6 ∧ (fa 8 1 (((iv 8 5).toInt).toNat + 0)).toInt = 115 ∧ (fa 8 1 (((iv 8 5).toInt).toNat + 1)).toInt = 116 ∧ (fa 8 1 (((iv 8 5).toInt).toNat + 2)).toInt = 114 ∧ (fa 8 1 (((iv 8 5).toInt).toNat + 3)).toInt = 105 ∧ (fa 8 1 (((iv 8 5).toInt).toNat + 4)).toInt = 107 ∧ (fa 8 1 (((iv 8 5).toInt).toNat + 5)).toInt = 101 := h9; omega)⟩))⟩, ht9⟩) (fun q hq => by cases hq) dX8_isSame_50
      · have fc10 := z_ne (by decide : (115 : Int32).toInt = 115) (rfl : (v9).toInt = _) c10
        refine lv_iconst (v := 0) hx hb dX8_isSame_49 (by decide) ?_
        have : (0 : Int32).toInt = 0 := (by decide)
        exact W.zret (v := 0) hx hb hr rfl (fun t ht9 hW => ⟨0, rfl, ⟨⟨by decide, by decide⟩, (show (((0 : Int32).toInt = 1 ∧ w_strike (fun j => ((fa 8 1) j).toInt) ((iv 8 5) : Int32).toInt (d).toInt) ∨ ((0 : Int32).toInt = 0 ∧ ¬ w_strike (fun j => ((fa 8 1) j).toInt) ((iv 8 5) : Int32).toInt (d).toInt)) from (by have q0 := congrArg Int32.toInt (ev9.trans (congrArg (fa 8 1) (show (v8 : Int32).toNatClampNeg = ((iv 8 5).toInt).toNat + 0 from (by show (v8 : Int32).toInt.toNat = _; omega)))); exact Or.inr ⟨by omega, fun h9 => (by have h8 : d.toInt - (iv 8 5).toInt = 6 ∧ (fa 8 1 (((iv 8 5).toInt).toNat + 0)).toInt = 115 ∧ (fa 8 1 (((iv 8 5).toInt).toNat + 1)).toInt = 116 ∧ (fa 8 1 (((iv 8 5).toInt).toNat + 2)).toInt = 114 ∧ (fa 8 1 (((iv 8 5).toInt).toNat + 3)).toInt = 105 ∧ (fa 8 1 (((iv 8 5).toInt).toNat + 4)).toInt = 107 ∧ (fa 8 1 (((iv 8 5).toInt).toNat + 5)).toInt = 101 := h9; omega)⟩))⟩, ht9⟩) (fun q hq => by cases hq) dX8_isSame_50
  · have fc3 := z_ne (by decide : (6 : Int32).toInt = 6) (rfl : (v2).toInt = _) c3
    refine lv_iconst (v := 0) hx hb dX8_isSame_13 (by decide) ?_
    have : (0 : Int32).toInt = 0 := (by decide)
    exact W.zret (v := 0) hx hb hr rfl (fun t ht9 hW => ⟨0, rfl, ⟨⟨by decide, by decide⟩, (show (((0 : Int32).toInt = 1 ∧ w_strike (fun j => ((fa 8 1) j).toInt) ((iv 8 5) : Int32).toInt (d).toInt) ∨ ((0 : Int32).toInt = 0 ∧ ¬ w_strike (fun j => ((fa 8 1) j).toInt) ((iv 8 5) : Int32).toInt (d).toInt)) from (by exact Or.inr ⟨by omega, fun h9 => (by have h8 : d.toInt - (iv 8 5).toInt = 6 ∧ (fa 8 1 (((iv 8 5).toInt).toNat + 0)).toInt = 115 ∧ (fa 8 1 (((iv 8 5).toInt).toNat + 1)).toInt = 116 ∧ (fa 8 1 (((iv 8 5).toInt).toNat + 2)).toInt = 114 ∧ (fa 8 1 (((iv 8 5).toInt).toNat + 3)).toInt = 105 ∧ (fa 8 1 (((iv 8 5).toInt).toNat + 4)).toInt = 107 ∧ (fa 8 1 (((iv 8 5).toInt).toNat + 5)).toInt = 101 := h9; omega)⟩))⟩, ht9⟩) (fun q hq => by cases hq) dX8_isSame_14
set_option maxHeartbeats 4000000 in
set_option maxRecDepth 100000 in
/-- X8_isSame -/
theorem c_X8_isSame_r1_0 (l : Launch) (dC : Nat → ClassId) (dI : Nat → Nat → Nat) (ak av : Nat → Nat) (h : Nat) (g : Nat → Nat → Nat) (ca : Nat → Nat → ClassId) (iv : Nat → Nat → Int32) (lv : Nat → Nat → Int64) (fa : Nat → Nat → Nat → Int32) (la : Nat → Nat → Nat → Int64) (hI : IX iv fa) (d : Int32) (h_d : 0 ≤ d.toInt ∧ d.toInt ≤ 200) : Met l yX8_isSame (wc yX8_isSame cX8_isSame 6 (some .boolean)) ({ frames := 4, cells := 0, slots := 0, locals := 85 } : Room) (pRZ ak av (dC, dI) classes (WX h g ca iv lv fa la) (TX ca) [.ref (g 11 4), .ref (ak 1), .int 0, .int 5, .int d]) (vp_Si (fun r => (0 ≤ r.toInt ∧ r.toInt ≤ 1) ∧ (((r.toInt = 1 ∧ w_water (fun j => ((fa 8 1) j).toInt) (iv 8 5).toInt d.toInt) ∨ (r.toInt = 0 ∧ ¬ w_water (fun j => ((fa 8 1) j).toInt) (iv 8 5).toInt d.toInt))))) 0 0 (fun _ => False) := by
  refine Met.ofW (cc := cX8_isSame) (maxL := 6) (ret := (some .boolean)) (by decide) rfl ?_
  intro p e s m args below meth c s₁ B hml hv
  obtain ⟨rfl, hP, hK, hZ⟩ := hv
  have hx := B.exec
  have hb := B.bytes
  have hr := B.returns
  have ht := tb_tl (atoms_spec (ws := wc yX8_isSame cX8_isSame 6 (some .boolean)) B.pre)
  have hown : s.vm.findClass RX8 = some m.cls := findClass_of_methodNamed B.named
  have hlocks := B.notSynchronized
  have hl := lv_entry [.ref (g 11 4), .ref (ak 1), .int 0, .int 5, .int d] (n := 6) (Nat.le_of_ble_eq_true rfl)
  rw [lg_entry_eq]
  generalize (lg_sl [.ref (g 11 4), .ref (ak 1), .int 0, .int 5, .int d] ++ List.replicate (6 - (lg_sl [.ref (g 11 4), .ref (ak 1), .int 0, .int 5, .int d]).length) Slot.unset).toArray = ls at hl ⊢
  have hl : lv_has ls 6 [(0, .ref (g 11 4)), (1, .ref (ak 1)), (2, .int 0), (3, .int 5), (4, .int d)] := hl
  refine lv_iload_n hx hb dX8_isSame_0 rfl (lv_at hl 3 rfl) ?_
  refine lv_iload_n hx hb dX8_isSame_1 rfl (lv_at hl 2 rfl) ?_
  refine lv_isub hx hb dX8_isSame_2 ?_
  refine lv_topi (fun v1 ev1 => ?_)
  obtain rfl : 5 = v1 := (ev1.trans (by decide)).symm
  refine lv_iload hx hb dX8_isSame_3 (lv_at hl 4 rfl) ?_
  refine lv_aload_n hx hb dX8_isSame_5 rfl (lv_at hl 0 rfl) ?_
  have i_8_5 : 0 ≤ (iv 8 5).toInt ∧ (iv 8 5).toInt ≤ 200 := hI.1 8 5
  refine gX_8_5 hx hb ht hown hK hP m_235 (v := (iv 8 5)) rfl dX8_isSame_6 ?_
  refine lv_isub hx hb dX8_isSame_9 ?_
  refine lv_topi (fun v2 ev2 => ?_)
  have tv2 := z_sub ev2 (rfl : (d).toInt = _) (rfl : ((iv 8 5)).toInt = _) (by omega) (by omega)
  refine lv_icmp_eq (tgt := 15) hx hb dX8_isSame_10 (by decide) (fun c3 => ?_) (fun c3 => ?_)
  · have fc3 := z_eq (by decide : (5 : Int32).toInt = 5) (rfl : (v2).toInt = _) c3
    refine lv_iconst (v := 0) hx hb dX8_isSame_15 (by decide) ?_
    refine lv_istore (lv' := [(5, .int 0), (0, .ref (g 11 4)), (1, .ref (ak 1)), (2, .int 0), (3, .int 5), (4, .int d)]) hx hb dX8_isSame_16 hl (by decide) rfl (fun ls hl => ?_)
    refine lv_iload hx hb dX8_isSame_18 (lv_at hl 0 rfl) ?_
    refine lv_iload_n hx hb dX8_isSame_20 rfl (lv_at hl 4 rfl) ?_
    refine lv_iload_n hx hb dX8_isSame_21 rfl (lv_at hl 3 rfl) ?_
    refine lv_isub hx hb dX8_isSame_22 ?_
    refine lv_topi (fun v4 ev4 => ?_)
    obtain rfl : 5 = v4 := (ev4.trans (by decide)).symm
    refine lv_icmp_ge (tgt := 57) hx hb dX8_isSame_23 (by decide) (fun c5 => ?_) (fun c5 => ?_)
    · exact absurd c5 (by decide)
    · skip
      refine lv_aload_n hx hb dX8_isSame_26 rfl (lv_at hl 2 rfl) ?_
      refine lv_iload_n hx hb dX8_isSame_27 rfl (lv_at hl 3 rfl) ?_
      refine lv_iload hx hb dX8_isSame_28 (lv_at hl 0 rfl) ?_
      refine lv_iadd hx hb dX8_isSame_30 ?_
      refine lv_topi (fun v6 ev6 => ?_)
      obtain rfl : 0 = v6 := (ev6.trans (by decide)).symm
      refine vp_callSi (W.runV (As := [.int 0]) (rest := []) ⟨hx, hb, hml, hown, ht⟩ (c_J0_charAt_5068e_1 l dC dI ak av 0 ⟨by decide, by decide⟩) (kV 1 ht m_715 m_716 m_717 m_91 m_718 rfl rfl hd_J0_charAt_5068e_v ⟨Nat.le_of_ble_eq_true rfl, Nat.le_of_ble_eq_true rfl⟩) (vRZ noP (hK.sub (tys' := []) [] rfl) hZ (vk_recv hZ.1.2.2.2.2.2 (i := 1) (by decide) va_S.rf)) rfl rfl hl.1 rfl (lv_room (Nat.le_of_ble_eq_true rfl)) dX8_isSame_31 ⟨Nat.le_of_ble_eq_true rfl, Nat.le_of_ble_eq_true rfl⟩) (fun r7 hr7 => ?_)
      obtain rfl : 119 = r7 := (hr7.trans (by decide)).symm
      refine lv_aload_n hx hb dX8_isSame_34 rfl (lv_at hl 1 rfl) ?_
      refine gX_8_1 hx hb ht hown hK hP m_229 dX8_isSame_35 ?_
      refine lv_aload_n hx hb dX8_isSame_38 rfl (lv_at hl 1 rfl) ?_
      refine gX_8_5 hx hb ht hown hK hP m_235 (v := (iv 8 5)) rfl dX8_isSame_39 ?_
      refine lv_iload hx hb dX8_isSame_42 (lv_at hl 0 rfl) ?_
      refine lv_iadd hx hb dX8_isSame_44 ?_
      refine lv_topi (fun v8 ev8 => ?_)
      have tv8 := z_add ev8 (rfl : ((iv 8 5)).toInt = _) (by decide : (0 : Int32).toInt = 0) (by omega) (by omega)
      have : 0 ≤ (v8 : Int32).toInt ∧ (v8 : Int32).toInt ≤ 199 := ⟨by omega, by omega⟩
      refine lX_8_1 hx hb hK hP (f := (fa 8 1)) rfl (vp_in_iff.mpr ⟨by omega, by omega⟩) dX8_isSame_45 ?_
      refine lv_topi (fun v9 ev9 => ?_)
      refine lv_icmp_eq (tgt := 51) hx hb dX8_isSame_46 (by decide) (fun c10 => ?_) (fun c10 => ?_)
      · have fc10 := z_eq (by decide : (119 : Int32).toInt = 119) (rfl : (v9).toInt = _) c10
        refine lv_iinc (v := 1) (lv' := [(5, .int 1), (0, .ref (g 11 4)), (1, .ref (ak 1)), (2, .int 0), (3, .int 5), (4, .int d)]) hx hb dX8_isSame_51 hl (k := 0) rfl (by decide) (by decide) rfl (fun ls hl => ?_)
        refine lv_goto (tgt := 18) hx hb dX8_isSame_54 (by decide) ?_
        refine lv_iload hx hb dX8_isSame_18 (lv_at hl 0 rfl) ?_
        refine lv_iload_n hx hb dX8_isSame_20 rfl (lv_at hl 4 rfl) ?_
        refine lv_iload_n hx hb dX8_isSame_21 rfl (lv_at hl 3 rfl) ?_
        refine lv_isub hx hb dX8_isSame_22 ?_
        refine lv_topi (fun v11 ev11 => ?_)
        obtain rfl : 5 = v11 := (ev11.trans (by decide)).symm
        refine lv_icmp_ge (tgt := 57) hx hb dX8_isSame_23 (by decide) (fun c12 => ?_) (fun c12 => ?_)
        · exact absurd c12 (by decide)
        · skip
          refine lv_aload_n hx hb dX8_isSame_26 rfl (lv_at hl 2 rfl) ?_
          refine lv_iload_n hx hb dX8_isSame_27 rfl (lv_at hl 3 rfl) ?_
          refine lv_iload hx hb dX8_isSame_28 (lv_at hl 0 rfl) ?_
          refine lv_iadd hx hb dX8_isSame_30 ?_
          refine lv_topi (fun v13 ev13 => ?_)
          obtain rfl : 1 = v13 := (ev13.trans (by decide)).symm
          refine vp_callSi (W.runV (As := [.int 1]) (rest := []) ⟨hx, hb, hml, hown, ht⟩ (c_J0_charAt_5068e_1 l dC dI ak av 1 ⟨by decide, by decide⟩) (kV 1 ht m_715 m_716 m_717 m_91 m_718 rfl rfl hd_J0_charAt_5068e_v ⟨Nat.le_of_ble_eq_true rfl, Nat.le_of_ble_eq_true rfl⟩) (vRZ noP (hK.sub (tys' := []) [] rfl) hZ (vk_recv hZ.1.2.2.2.2.2 (i := 1) (by decide) va_S.rf)) rfl rfl hl.1 rfl (lv_room (Nat.le_of_ble_eq_true rfl)) dX8_isSame_31 ⟨Nat.le_of_ble_eq_true rfl, Nat.le_of_ble_eq_true rfl⟩) (fun r14 hr14 => ?_)
          obtain rfl : 97 = r14 := (hr14.trans (by decide)).symm
          refine lv_aload_n hx hb dX8_isSame_34 rfl (lv_at hl 1 rfl) ?_
          refine gX_8_1 hx hb ht hown hK hP m_229 dX8_isSame_35 ?_
          refine lv_aload_n hx hb dX8_isSame_38 rfl (lv_at hl 1 rfl) ?_
          refine gX_8_5 hx hb ht hown hK hP m_235 (v := (iv 8 5)) rfl dX8_isSame_39 ?_
          refine lv_iload hx hb dX8_isSame_42 (lv_at hl 0 rfl) ?_
          refine lv_iadd hx hb dX8_isSame_44 ?_
          refine lv_topi (fun v15 ev15 => ?_)
          have tv15 := z_add ev15 (rfl : ((iv 8 5)).toInt = _) (by decide : (1 : Int32).toInt = 1) (by omega) (by omega)
          have : 0 ≤ (v15 : Int32).toInt ∧ (v15 : Int32).toInt ≤ 199 := ⟨by omega, by omega⟩
          refine lX_8_1 hx hb hK hP (f := (fa 8 1)) rfl (vp_in_iff.mpr ⟨by omega, by omega⟩) dX8_isSame_45 ?_
          refine lv_topi (fun v16 ev16 => ?_)
          refine lv_icmp_eq (tgt := 51) hx hb dX8_isSame_46 (by decide) (fun c17 => ?_) (fun c17 => ?_)
          · have fc17 := z_eq (by decide : (97 : Int32).toInt = 97) (rfl : (v16).toInt = _) c17
            refine lv_iinc (v := 2) (lv' := [(5, .int 2), (0, .ref (g 11 4)), (1, .ref (ak 1)), (2, .int 0), (3, .int 5), (4, .int d)]) hx hb dX8_isSame_51 hl (k := 0) rfl (by decide) (by decide) rfl (fun ls hl => ?_)
            refine lv_goto (tgt := 18) hx hb dX8_isSame_54 (by decide) ?_
            refine lv_iload hx hb dX8_isSame_18 (lv_at hl 0 rfl) ?_
            refine lv_iload_n hx hb dX8_isSame_20 rfl (lv_at hl 4 rfl) ?_
            refine lv_iload_n hx hb dX8_isSame_21 rfl (lv_at hl 3 rfl) ?_
            refine lv_isub hx hb dX8_isSame_22 ?_
            refine lv_topi (fun v18 ev18 => ?_)
            obtain rfl : 5 = v18 := (ev18.trans (by decide)).symm
            refine lv_icmp_ge (tgt := 57) hx hb dX8_isSame_23 (by decide) (fun c19 => ?_) (fun c19 => ?_)
            · exact absurd c19 (by decide)
            · skip
              refine lv_aload_n hx hb dX8_isSame_26 rfl (lv_at hl 2 rfl) ?_
              refine lv_iload_n hx hb dX8_isSame_27 rfl (lv_at hl 3 rfl) ?_
              refine lv_iload hx hb dX8_isSame_28 (lv_at hl 0 rfl) ?_
              refine lv_iadd hx hb dX8_isSame_30 ?_
              refine lv_topi (fun v20 ev20 => ?_)
              obtain rfl : 2 = v20 := (ev20.trans (by decide)).symm
              refine vp_callSi (W.runV (As := [.int 2]) (rest := []) ⟨hx, hb, hml, hown, ht⟩ (c_J0_charAt_5068e_1 l dC dI ak av 2 ⟨by decide, by decide⟩) (kV 1 ht m_715 m_716 m_717 m_91 m_718 rfl rfl hd_J0_charAt_5068e_v ⟨Nat.le_of_ble_eq_true rfl, Nat.le_of_ble_eq_true rfl⟩) (vRZ noP (hK.sub (tys' := []) [] rfl) hZ (vk_recv hZ.1.2.2.2.2.2 (i := 1) (by decide) va_S.rf)) rfl rfl hl.1 rfl (lv_room (Nat.le_of_ble_eq_true rfl)) dX8_isSame_31 ⟨Nat.le_of_ble_eq_true rfl, Nat.le_of_ble_eq_true rfl⟩) (fun r21 hr21 => ?_)
              obtain rfl : 116 = r21 := (hr21.trans (by decide)).symm
              refine lv_aload_n hx hb dX8_isSame_34 rfl (lv_at hl 1 rfl) ?_
              refine gX_8_1 hx hb ht hown hK hP m_229 dX8_isSame_35 ?_
              refine lv_aload_n hx hb dX8_isSame_38 rfl (lv_at hl 1 rfl) ?_
              refine gX_8_5 hx hb ht hown hK hP m_235 (v := (iv 8 5)) rfl dX8_isSame_39 ?_
              refine lv_iload hx hb dX8_isSame_42 (lv_at hl 0 rfl) ?_
              refine lv_iadd hx hb dX8_isSame_44 ?_
              refine lv_topi (fun v22 ev22 => ?_)
              have tv22 := z_add ev22 (rfl : ((iv 8 5)).toInt = _) (by decide : (2 : Int32).toInt = 2) (by omega) (by omega)
              have : 0 ≤ (v22 : Int32).toInt ∧ (v22 : Int32).toInt ≤ 199 := ⟨by omega, by omega⟩
              refine lX_8_1 hx hb hK hP (f := (fa 8 1)) rfl (vp_in_iff.mpr ⟨by omega, by omega⟩) dX8_isSame_45 ?_
              refine lv_topi (fun v23 ev23 => ?_)
              refine lv_icmp_eq (tgt := 51) hx hb dX8_isSame_46 (by decide) (fun c24 => ?_) (fun c24 => ?_)
              · have fc24 := z_eq (by decide : (116 : Int32).toInt = 116) (rfl : (v23).toInt = _) c24
                refine lv_iinc (v := 3) (lv' := [(5, .int 3), (0, .ref (g 11 4)), (1, .ref (ak 1)), (2, .int 0), (3, .int 5), (4, .int d)]) hx hb dX8_isSame_51 hl (k := 0) rfl (by decide) (by decide) rfl (fun ls hl => ?_)
                refine lv_goto (tgt := 18) hx hb dX8_isSame_54 (by decide) ?_
                refine lv_iload hx hb dX8_isSame_18 (lv_at hl 0 rfl) ?_
                refine lv_iload_n hx hb dX8_isSame_20 rfl (lv_at hl 4 rfl) ?_
                refine lv_iload_n hx hb dX8_isSame_21 rfl (lv_at hl 3 rfl) ?_
                refine lv_isub hx hb dX8_isSame_22 ?_
                refine lv_topi (fun v25 ev25 => ?_)
                obtain rfl : 5 = v25 := (ev25.trans (by decide)).symm
                refine lv_icmp_ge (tgt := 57) hx hb dX8_isSame_23 (by decide) (fun c26 => ?_) (fun c26 => ?_)
                · exact absurd c26 (by decide)
                · skip
                  refine lv_aload_n hx hb dX8_isSame_26 rfl (lv_at hl 2 rfl) ?_
                  refine lv_iload_n hx hb dX8_isSame_27 rfl (lv_at hl 3 rfl) ?_
                  refine lv_iload hx hb dX8_isSame_28 (lv_at hl 0 rfl) ?_
                  refine lv_iadd hx hb dX8_isSame_30 ?_
                  refine lv_topi (fun v27 ev27 => ?_)
                  obtain rfl : 3 = v27 := (ev27.trans (by decide)).symm
                  refine vp_callSi (W.runV (As := [.int 3]) (rest := []) ⟨hx, hb, hml, hown, ht⟩ (c_J0_charAt_5068e_1 l dC dI ak av 3 ⟨by decide, by decide⟩) (kV 1 ht m_715 m_716 m_717 m_91 m_718 rfl rfl hd_J0_charAt_5068e_v ⟨Nat.le_of_ble_eq_true rfl, Nat.le_of_ble_eq_true rfl⟩) (vRZ noP (hK.sub (tys' := []) [] rfl) hZ (vk_recv hZ.1.2.2.2.2.2 (i := 1) (by decide) va_S.rf)) rfl rfl hl.1 rfl (lv_room (Nat.le_of_ble_eq_true rfl)) dX8_isSame_31 ⟨Nat.le_of_ble_eq_true rfl, Nat.le_of_ble_eq_true rfl⟩) (fun r28 hr28 => ?_)
                  obtain rfl : 101 = r28 := (hr28.trans (by decide)).symm
                  refine lv_aload_n hx hb dX8_isSame_34 rfl (lv_at hl 1 rfl) ?_
                  refine gX_8_1 hx hb ht hown hK hP m_229 dX8_isSame_35 ?_
                  refine lv_aload_n hx hb dX8_isSame_38 rfl (lv_at hl 1 rfl) ?_
                  refine gX_8_5 hx hb ht hown hK hP m_235 (v := (iv 8 5)) rfl dX8_isSame_39 ?_
                  refine lv_iload hx hb dX8_isSame_42 (lv_at hl 0 rfl) ?_
                  refine lv_iadd hx hb dX8_isSame_44 ?_
                  refine lv_topi (fun v29 ev29 => ?_)
                  have tv29 := z_add ev29 (rfl : ((iv 8 5)).toInt = _) (by decide : (3 : Int32).toInt = 3) (by omega) (by omega)
                  have : 0 ≤ (v29 : Int32).toInt ∧ (v29 : Int32).toInt ≤ 199 := ⟨by omega, by omega⟩
                  refine lX_8_1 hx hb hK hP (f := (fa 8 1)) rfl (vp_in_iff.mpr ⟨by omega, by omega⟩) dX8_isSame_45 ?_
                  refine lv_topi (fun v30 ev30 => ?_)
                  refine lv_icmp_eq (tgt := 51) hx hb dX8_isSame_46 (by decide) (fun c31 => ?_) (fun c31 => ?_)
                  · have fc31 := z_eq (by decide : (101 : Int32).toInt = 101) (rfl : (v30).toInt = _) c31
                    refine lv_iinc (v := 4) (lv' := [(5, .int 4), (0, .ref (g 11 4)), (1, .ref (ak 1)), (2, .int 0), (3, .int 5), (4, .int d)]) hx hb dX8_isSame_51 hl (k := 0) rfl (by decide) (by decide) rfl (fun ls hl => ?_)
                    refine lv_goto (tgt := 18) hx hb dX8_isSame_54 (by decide) ?_
                    refine lv_iload hx hb dX8_isSame_18 (lv_at hl 0 rfl) ?_
                    refine lv_iload_n hx hb dX8_isSame_20 rfl (lv_at hl 4 rfl) ?_
                    refine lv_iload_n hx hb dX8_isSame_21 rfl (lv_at hl 3 rfl) ?_
                    refine lv_isub hx hb dX8_isSame_22 ?_
                    refine lv_topi (fun v32 ev32 => ?_)
                    obtain rfl : 5 = v32 := (ev32.trans (by decide)).symm
                    refine lv_icmp_ge (tgt := 57) hx hb dX8_isSame_23 (by decide) (fun c33 => ?_) (fun c33 => ?_)
                    · exact absurd c33 (by decide)
                    · skip
                      refine lv_aload_n hx hb dX8_isSame_26 rfl (lv_at hl 2 rfl) ?_
                      refine lv_iload_n hx hb dX8_isSame_27 rfl (lv_at hl 3 rfl) ?_
                      refine lv_iload hx hb dX8_isSame_28 (lv_at hl 0 rfl) ?_
                      refine lv_iadd hx hb dX8_isSame_30 ?_
                      refine lv_topi (fun v34 ev34 => ?_)
                      obtain rfl : 4 = v34 := (ev34.trans (by decide)).symm
                      refine vp_callSi (W.runV (As := [.int 4]) (rest := []) ⟨hx, hb, hml, hown, ht⟩ (c_J0_charAt_5068e_1 l dC dI ak av 4 ⟨by decide, by decide⟩) (kV 1 ht m_715 m_716 m_717 m_91 m_718 rfl rfl hd_J0_charAt_5068e_v ⟨Nat.le_of_ble_eq_true rfl, Nat.le_of_ble_eq_true rfl⟩) (vRZ noP (hK.sub (tys' := []) [] rfl) hZ (vk_recv hZ.1.2.2.2.2.2 (i := 1) (by decide) va_S.rf)) rfl rfl hl.1 rfl (lv_room (Nat.le_of_ble_eq_true rfl)) dX8_isSame_31 ⟨Nat.le_of_ble_eq_true rfl, Nat.le_of_ble_eq_true rfl⟩) (fun r35 hr35 => ?_)
                      obtain rfl : 114 = r35 := (hr35.trans (by decide)).symm
                      refine lv_aload_n hx hb dX8_isSame_34 rfl (lv_at hl 1 rfl) ?_
                      refine gX_8_1 hx hb ht hown hK hP m_229 dX8_isSame_35 ?_
                      refine lv_aload_n hx hb dX8_isSame_38 rfl (lv_at hl 1 rfl) ?_
                      refine gX_8_5 hx hb ht hown hK hP m_235 (v := (iv 8 5)) rfl dX8_isSame_39 ?_
                      refine lv_iload hx hb dX8_isSame_42 (lv_at hl 0 rfl) ?_
                      refine lv_iadd hx hb dX8_isSame_44 ?_
                      refine lv_topi (fun v36 ev36 => ?_)
                      have tv36 := z_add ev36 (rfl : ((iv 8 5)).toInt = _) (by decide : (4 : Int32).toInt = 4) (by omega) (by omega)
                      have : 0 ≤ (v36 : Int32).toInt ∧ (v36 : Int32).toInt ≤ 199 := ⟨by omega, by omega⟩
                      refine lX_8_1 hx hb hK hP (f := (fa 8 1)) rfl (vp_in_iff.mpr ⟨by omega, by omega⟩) dX8_isSame_45 ?_
                      refine lv_topi (fun v37 ev37 => ?_)
                      refine lv_icmp_eq (tgt := 51) hx hb dX8_isSame_46 (by decide) (fun c38 => ?_) (fun c38 => ?_)
                      · have fc38 := z_eq (by decide : (114 : Int32).toInt = 114) (rfl : (v37).toInt = _) c38
                        refine lv_iinc (v := 5) (lv' := [(5, .int 5), (0, .ref (g 11 4)), (1, .ref (ak 1)), (2, .int 0), (3, .int 5), (4, .int d)]) hx hb dX8_isSame_51 hl (k := 0) rfl (by decide) (by decide) rfl (fun ls hl => ?_)
                        refine lv_goto (tgt := 18) hx hb dX8_isSame_54 (by decide) ?_
                        refine lv_iload hx hb dX8_isSame_18 (lv_at hl 0 rfl) ?_
                        refine lv_iload_n hx hb dX8_isSame_20 rfl (lv_at hl 4 rfl) ?_
                        refine lv_iload_n hx hb dX8_isSame_21 rfl (lv_at hl 3 rfl) ?_
                        refine lv_isub hx hb dX8_isSame_22 ?_
                        refine lv_topi (fun v39 ev39 => ?_)
                        obtain rfl : 5 = v39 := (ev39.trans (by decide)).symm
                        refine lv_icmp_ge (tgt := 57) hx hb dX8_isSame_23 (by decide) (fun c40 => ?_) (fun c40 => ?_)
                        · skip
                          refine lv_iconst (v := 1) hx hb dX8_isSame_57 (by decide) ?_
                          have : (1 : Int32).toInt = 1 := (by decide)
                          exact W.zret (v := 1) hx hb hr rfl (fun t ht9 hW => ⟨1, rfl, ⟨⟨by decide, by decide⟩, (show (((1 : Int32).toInt = 1 ∧ w_water (fun j => ((fa 8 1) j).toInt) ((iv 8 5) : Int32).toInt (d).toInt) ∨ ((1 : Int32).toInt = 0 ∧ ¬ w_water (fun j => ((fa 8 1) j).toInt) ((iv 8 5) : Int32).toInt (d).toInt)) from (by have q0 := congrArg Int32.toInt (ev9.trans (congrArg (fa 8 1) (show (v8 : Int32).toNatClampNeg = ((iv 8 5).toInt).toNat + 0 from (by show (v8 : Int32).toInt.toNat = _; omega)))); have q1 := congrArg Int32.toInt (ev16.trans (congrArg (fa 8 1) (show (v15 : Int32).toNatClampNeg = ((iv 8 5).toInt).toNat + 1 from (by show (v15 : Int32).toInt.toNat = _; omega)))); have q2 := congrArg Int32.toInt (ev23.trans (congrArg (fa 8 1) (show (v22 : Int32).toNatClampNeg = ((iv 8 5).toInt).toNat + 2 from (by show (v22 : Int32).toInt.toNat = _; omega)))); have q3 := congrArg Int32.toInt (ev30.trans (congrArg (fa 8 1) (show (v29 : Int32).toNatClampNeg = ((iv 8 5).toInt).toNat + 3 from (by show (v29 : Int32).toInt.toNat = _; omega)))); have q4 := congrArg Int32.toInt (ev37.trans (congrArg (fa 8 1) (show (v36 : Int32).toNatClampNeg = ((iv 8 5).toInt).toNat + 4 from (by show (v36 : Int32).toInt.toNat = _; omega)))); exact Or.inl ⟨by omega, (show d.toInt - (iv 8 5).toInt = 5 ∧ (fa 8 1 (((iv 8 5).toInt).toNat + 0)).toInt = 119 ∧ (fa 8 1 (((iv 8 5).toInt).toNat + 1)).toInt = 97 ∧ (fa 8 1 (((iv 8 5).toInt).toNat + 2)).toInt = 116 ∧ (fa 8 1 (((iv 8 5).toInt).toNat + 3)).toInt = 101 ∧ (fa 8 1 (((iv 8 5).toInt).toNat + 4)).toInt = 114 from ⟨by omega, by omega, by omega, by omega, by omega, by omega⟩)⟩))⟩, ht9⟩) (fun q hq => by cases hq) dX8_isSame_58
                        · exact absurd c40 (by decide)
                      · have fc38 := z_ne (by decide : (114 : Int32).toInt = 114) (rfl : (v37).toInt = _) c38
                        refine lv_iconst (v := 0) hx hb dX8_isSame_49 (by decide) ?_
                        have : (0 : Int32).toInt = 0 := (by decide)
                        exact W.zret (v := 0) hx hb hr rfl (fun t ht9 hW => ⟨0, rfl, ⟨⟨by decide, by decide⟩, (show (((0 : Int32).toInt = 1 ∧ w_water (fun j => ((fa 8 1) j).toInt) ((iv 8 5) : Int32).toInt (d).toInt) ∨ ((0 : Int32).toInt = 0 ∧ ¬ w_water (fun j => ((fa 8 1) j).toInt) ((iv 8 5) : Int32).toInt (d).toInt)) from (by have q0 := congrArg Int32.toInt (ev9.trans (congrArg (fa 8 1) (show (v8 : Int32).toNatClampNeg = ((iv 8 5).toInt).toNat + 0 from (by show (v8 : Int32).toInt.toNat = _; omega)))); have q1 := congrArg Int32.toInt (ev16.trans (congrArg (fa 8 1) (show (v15 : Int32).toNatClampNeg = ((iv 8 5).toInt).toNat + 1 from (by show (v15 : Int32).toInt.toNat = _; omega)))); have q2 := congrArg Int32.toInt (ev23.trans (congrArg (fa 8 1) (show (v22 : Int32).toNatClampNeg = ((iv 8 5).toInt).toNat + 2 from (by show (v22 : Int32).toInt.toNat = _; omega)))); have q3 := congrArg Int32.toInt (ev30.trans (congrArg (fa 8 1) (show (v29 : Int32).toNatClampNeg = ((iv 8 5).toInt).toNat + 3 from (by show (v29 : Int32).toInt.toNat = _; omega)))); have q4 := congrArg Int32.toInt (ev37.trans (congrArg (fa 8 1) (show (v36 : Int32).toNatClampNeg = ((iv 8 5).toInt).toNat + 4 from (by show (v36 : Int32).toInt.toNat = _; omega)))); exact Or.inr ⟨by omega, fun h9 => (by have h8 : d.toInt - (iv 8 5).toInt = 5 ∧ (fa 8 1 (((iv 8 5).toInt).toNat + 0)).toInt = 119 ∧ (fa 8 1 (((iv 8 5).toInt).toNat + 1)).toInt = 97 ∧ (fa 8 1 (((iv 8 5).toInt).toNat + 2)).toInt = 116 ∧ (fa 8 1 (((iv 8 5).toInt).toNat + 3)).toInt = 101 ∧ (fa 8 1 (((iv 8 5).toInt).toNat + 4)).toInt = 114 := h9; omega)⟩))⟩, ht9⟩) (fun q hq => by cases hq) dX8_isSame_50
                  · have fc31 := z_ne (by decide : (101 : Int32).toInt = 101) (rfl : (v30).toInt = _) c31
                    refine lv_iconst (v := 0) hx hb dX8_isSame_49 (by decide) ?_
                    have : (0 : Int32).toInt = 0 := (by decide)
                    exact W.zret (v := 0) hx hb hr rfl (fun t ht9 hW => ⟨0, rfl, ⟨⟨by decide, by decide⟩, (show (((0 : Int32).toInt = 1 ∧ w_water (fun j => ((fa 8 1) j).toInt) ((iv 8 5) : Int32).toInt (d).toInt) ∨ ((0 : Int32).toInt = 0 ∧ ¬ w_water (fun j => ((fa 8 1) j).toInt) ((iv 8 5) : Int32).toInt (d).toInt)) from (by have q0 := congrArg Int32.toInt (ev9.trans (congrArg (fa 8 1) (show (v8 : Int32).toNatClampNeg = ((iv 8 5).toInt).toNat + 0 from (by show (v8 : Int32).toInt.toNat = _; omega)))); have q1 := congrArg Int32.toInt (ev16.trans (congrArg (fa 8 1) (show (v15 : Int32).toNatClampNeg = ((iv 8 5).toInt).toNat + 1 from (by show (v15 : Int32).toInt.toNat = _; omega)))); have q2 := congrArg Int32.toInt (ev23.trans (congrArg (fa 8 1) (show (v22 : Int32).toNatClampNeg = ((iv 8 5).toInt).toNat + 2 from (by show (v22 : Int32).toInt.toNat = _; omega)))); have q3 := congrArg Int32.toInt (ev30.trans (congrArg (fa 8 1) (show (v29 : Int32).toNatClampNeg = ((iv 8 5).toInt).toNat + 3 from (by show (v29 : Int32).toInt.toNat = _; omega)))); exact Or.inr ⟨by omega, fun h9 => (by have h8 : d.toInt - (iv 8 5).toInt = 5 ∧ (fa 8 1 (((iv 8 5).toInt).toNat + 0)).toInt = 119 ∧ (fa 8 1 (((iv 8 5).toInt).toNat + 1)).toInt = 97 ∧ (fa 8 1 (((iv 8 5).toInt).toNat + 2)).toInt = 116 ∧ (fa 8 1 (((iv 8 5).toInt).toNat + 3)).toInt = 101 ∧ (fa 8 1 (((iv 8 5).toInt).toNat + 4)).toInt = 114 := h9; omega)⟩))⟩, ht9⟩) (fun q hq => by cases hq) dX8_isSame_50
              · have fc24 := z_ne (by decide : (116 : Int32).toInt = 116) (rfl : (v23).toInt = _) c24
                refine lv_iconst (v := 0) hx hb dX8_isSame_49 (by decide) ?_
                have : (0 : Int32).toInt = 0 := (by decide)
                exact W.zret (v := 0) hx hb hr rfl (fun t ht9 hW => ⟨0, rfl, ⟨⟨by decide, by decide⟩, (show (((0 : Int32).toInt = 1 ∧ w_water (fun j => ((fa 8 1) j).toInt) ((iv 8 5) : Int32).toInt (d).toInt) ∨ ((0 : Int32).toInt = 0 ∧ ¬ w_water (fun j => ((fa 8 1) j).toInt) ((iv 8 5) : Int32).toInt (d).toInt)) from (by have q0 := congrArg Int32.toInt (ev9.trans (congrArg (fa 8 1) (show (v8 : Int32).toNatClampNeg = ((iv 8 5).toInt).toNat + 0 from (by show (v8 : Int32).toInt.toNat = _; omega)))); have q1 := congrArg Int32.toInt (ev16.trans (congrArg (fa 8 1) (show (v15 : Int32).toNatClampNeg = ((iv 8 5).toInt).toNat + 1 from (by show (v15 : Int32).toInt.toNat = _; omega)))); have q2 := congrArg Int32.toInt (ev23.trans (congrArg (fa 8 1) (show (v22 : Int32).toNatClampNeg = ((iv 8 5).toInt).toNat + 2 from (by show (v22 : Int32).toInt.toNat = _; omega)))); exact Or.inr ⟨by omega, fun h9 => (by have h8 : d.toInt - (iv 8 5).toInt = 5 ∧ (fa 8 1 (((iv 8 5).toInt).toNat + 0)).toInt = 119 ∧ (fa 8 1 (((iv 8 5).toInt).toNat + 1)).toInt = 97 ∧ (fa 8 1 (((iv 8 5).toInt).toNat + 2)).toInt = 116 ∧ (fa 8 1 (((iv 8 5).toInt).toNat + 3)).toInt = 101 ∧ (fa 8 1 (((iv 8 5).toInt).toNat + 4)).toInt = 114 := h9; omega)⟩))⟩, ht9⟩) (fun q hq => by cases hq) dX8_isSame_50
          · have fc17 := z_ne (by decide : (97 : Int32).toInt = 97) (rfl : (v16).toInt = _) c17
            refine lv_iconst (v := 0) hx hb dX8_isSame_49 (by decide) ?_
            have : (0 : Int32).toInt = 0 := (by decide)
            exact W.zret (v := 0) hx hb hr rfl (fun t ht9 hW => ⟨0, rfl, ⟨⟨by decide, by decide⟩, (show (((0 : Int32).toInt = 1 ∧ w_water (fun j => ((fa 8 1) j).toInt) ((iv 8 5) : Int32).toInt (d).toInt) ∨ ((0 : Int32).toInt = 0 ∧ ¬ w_water (fun j => ((fa 8 1) j).toInt) ((iv 8 5) : Int32).toInt (d).toInt)) from (by have q0 := congrArg Int32.toInt (ev9.trans (congrArg (fa 8 1) (show (v8 : Int32).toNatClampNeg = ((iv 8 5).toInt).toNat + 0 from (by show (v8 : Int32).toInt.toNat = _; omega)))); have q1 := congrArg Int32.toInt (ev16.trans (congrArg (fa 8 1) (show (v15 : Int32).toNatClampNeg = ((iv 8 5).toInt).toNat + 1 from (by show (v15 : Int32).toInt.toNat = _; omega)))); exact Or.inr ⟨by omega, fun h9 => (by have h8 : d.toInt - (iv 8 5).toInt = 5 ∧ (fa 8 1 (((iv 8 5).toInt).toNat + 0)).toInt = 119 ∧ (fa 8 1 (((iv 8 5).toInt).toNat + 1)).toInt = 97 ∧ (fa 8 1 (((iv 8 5).toInt).toNat + 2)).toInt = 116 ∧ (fa 8 1 (((iv 8 5).toInt).toNat + 3)).toInt = 101 ∧ (fa 8 1 (((iv 8 5).toInt).toNat + 4)).toInt = 114 := h9; omega)⟩))⟩, ht9⟩) (fun q hq => by cases hq) dX8_isSame_50
      · have fc10 := z_ne (by decide : (119 : Int32).toInt = 119) (rfl : (v9).toInt = _) c10
        refine lv_iconst (v := 0) hx hb dX8_isSame_49 (by decide) ?_
        have : (0 : Int32).toInt = 0 := (by decide)
        exact W.zret (v := 0) hx hb hr rfl (fun t ht9 hW => ⟨0, rfl, ⟨⟨by decide, by decide⟩, (show (((0 : Int32).toInt = 1 ∧ w_water (fun j => ((fa 8 1) j).toInt) ((iv 8 5) : Int32).toInt (d).toInt) ∨ ((0 : Int32).toInt = 0 ∧ ¬ w_water (fun j => ((fa 8 1) j).toInt) ((iv 8 5) : Int32).toInt (d).toInt)) from (by have q0 := congrArg Int32.toInt (ev9.trans (congrArg (fa 8 1) (show (v8 : Int32).toNatClampNeg = ((iv 8 5).toInt).toNat + 0 from (by show (v8 : Int32).toInt.toNat = _; omega)))); exact Or.inr ⟨by omega, fun h9 => (by have h8 : d.toInt - (iv 8 5).toInt = 5 ∧ (fa 8 1 (((iv 8 5).toInt).toNat + 0)).toInt = 119 ∧ (fa 8 1 (((iv 8 5).toInt).toNat + 1)).toInt = 97 ∧ (fa 8 1 (((iv 8 5).toInt).toNat + 2)).toInt = 116 ∧ (fa 8 1 (((iv 8 5).toInt).toNat + 3)).toInt = 101 ∧ (fa 8 1 (((iv 8 5).toInt).toNat + 4)).toInt = 114 := h9; omega)⟩))⟩, ht9⟩) (fun q hq => by cases hq) dX8_isSame_50
  · have fc3 := z_ne (by decide : (5 : Int32).toInt = 5) (rfl : (v2).toInt = _) c3
    refine lv_iconst (v := 0) hx hb dX8_isSame_13 (by decide) ?_
    have : (0 : Int32).toInt = 0 := (by decide)
    exact W.zret (v := 0) hx hb hr rfl (fun t ht9 hW => ⟨0, rfl, ⟨⟨by decide, by decide⟩, (show (((0 : Int32).toInt = 1 ∧ w_water (fun j => ((fa 8 1) j).toInt) ((iv 8 5) : Int32).toInt (d).toInt) ∨ ((0 : Int32).toInt = 0 ∧ ¬ w_water (fun j => ((fa 8 1) j).toInt) ((iv 8 5) : Int32).toInt (d).toInt)) from (by exact Or.inr ⟨by omega, fun h9 => (by have h8 : d.toInt - (iv 8 5).toInt = 5 ∧ (fa 8 1 (((iv 8 5).toInt).toNat + 0)).toInt = 119 ∧ (fa 8 1 (((iv 8 5).toInt).toNat + 1)).toInt = 97 ∧ (fa 8 1 (((iv 8 5).toInt).toNat + 2)).toInt = 116 ∧ (fa 8 1 (((iv 8 5).toInt).toNat + 3)).toInt = 101 ∧ (fa 8 1 (((iv 8 5).toInt).toNat + 4)).toInt = 114 := h9; omega)⟩))⟩, ht9⟩) (fun q hq => by cases hq) dX8_isSame_14
set_option maxHeartbeats 4000000 in
set_option maxRecDepth 100000 in
/-- X8_isSame -/
theorem c_X8_isSame_r1_6 (l : Launch) (dC : Nat → ClassId) (dI : Nat → Nat → Nat) (ak av : Nat → Nat) (h : Nat) (g : Nat → Nat → Nat) (ca : Nat → Nat → ClassId) (iv : Nat → Nat → Int32) (lv : Nat → Nat → Int64) (fa : Nat → Nat → Nat → Int32) (la : Nat → Nat → Nat → Int64) (hI : IX iv fa) (d : Int32) (h_d : 0 ≤ d.toInt ∧ d.toInt ≤ 200) : Met l yX8_isSame (wc yX8_isSame cX8_isSame 6 (some .boolean)) ({ frames := 4, cells := 0, slots := 0, locals := 85 } : Room) (pRZ ak av (dC, dI) classes (WX h g ca iv lv fa la) (TX ca) [.ref (g 11 4), .ref (ak 1), .int 6, .int 12, .int d]) (vp_Si (fun r => (0 ≤ r.toInt ∧ r.toInt ≤ 1) ∧ (((r.toInt = 1 ∧ w_skeins (fun j => ((fa 8 1) j).toInt) (iv 8 5).toInt d.toInt) ∨ (r.toInt = 0 ∧ ¬ w_skeins (fun j => ((fa 8 1) j).toInt) (iv 8 5).toInt d.toInt))))) 0 0 (fun _ => False) := by
  refine Met.ofW (cc := cX8_isSame) (maxL := 6) (ret := (some .boolean)) (by decide) rfl ?_
  intro p e s m args below meth c s₁ B hml hv
  obtain ⟨rfl, hP, hK, hZ⟩ := hv
  have hx := B.exec
  have hb := B.bytes
  have hr := B.returns
  have ht := tb_tl (atoms_spec (ws := wc yX8_isSame cX8_isSame 6 (some .boolean)) B.pre)
  have hown : s.vm.findClass RX8 = some m.cls := findClass_of_methodNamed B.named
  have hlocks := B.notSynchronized
  have hl := lv_entry [.ref (g 11 4), .ref (ak 1), .int 6, .int 12, .int d] (n := 6) (Nat.le_of_ble_eq_true rfl)
  rw [lg_entry_eq]
  generalize (lg_sl [.ref (g 11 4), .ref (ak 1), .int 6, .int 12, .int d] ++ List.replicate (6 - (lg_sl [.ref (g 11 4), .ref (ak 1), .int 6, .int 12, .int d]).length) Slot.unset).toArray = ls at hl ⊢
  have hl : lv_has ls 6 [(0, .ref (g 11 4)), (1, .ref (ak 1)), (2, .int 6), (3, .int 12), (4, .int d)] := hl
  refine lv_iload_n hx hb dX8_isSame_0 rfl (lv_at hl 3 rfl) ?_
  refine lv_iload_n hx hb dX8_isSame_1 rfl (lv_at hl 2 rfl) ?_
  refine lv_isub hx hb dX8_isSame_2 ?_
  refine lv_topi (fun v1 ev1 => ?_)
  obtain rfl : 6 = v1 := (ev1.trans (by decide)).symm
  refine lv_iload hx hb dX8_isSame_3 (lv_at hl 4 rfl) ?_
  refine lv_aload_n hx hb dX8_isSame_5 rfl (lv_at hl 0 rfl) ?_
  have i_8_5 : 0 ≤ (iv 8 5).toInt ∧ (iv 8 5).toInt ≤ 200 := hI.1 8 5
  refine gX_8_5 hx hb ht hown hK hP m_235 (v := (iv 8 5)) rfl dX8_isSame_6 ?_
  refine lv_isub hx hb dX8_isSame_9 ?_
  refine lv_topi (fun v2 ev2 => ?_)
  have tv2 := z_sub ev2 (rfl : (d).toInt = _) (rfl : ((iv 8 5)).toInt = _) (by omega) (by omega)
  refine lv_icmp_eq (tgt := 15) hx hb dX8_isSame_10 (by decide) (fun c3 => ?_) (fun c3 => ?_)
  · have fc3 := z_eq (by decide : (6 : Int32).toInt = 6) (rfl : (v2).toInt = _) c3
    refine lv_iconst (v := 0) hx hb dX8_isSame_15 (by decide) ?_
    refine lv_istore (lv' := [(5, .int 0), (0, .ref (g 11 4)), (1, .ref (ak 1)), (2, .int 6), (3, .int 12), (4, .int d)]) hx hb dX8_isSame_16 hl (by decide) rfl (fun ls hl => ?_)
    refine lv_iload hx hb dX8_isSame_18 (lv_at hl 0 rfl) ?_
    refine lv_iload_n hx hb dX8_isSame_20 rfl (lv_at hl 4 rfl) ?_
    refine lv_iload_n hx hb dX8_isSame_21 rfl (lv_at hl 3 rfl) ?_
    refine lv_isub hx hb dX8_isSame_22 ?_
    refine lv_topi (fun v4 ev4 => ?_)
    obtain rfl : 6 = v4 := (ev4.trans (by decide)).symm
    refine lv_icmp_ge (tgt := 57) hx hb dX8_isSame_23 (by decide) (fun c5 => ?_) (fun c5 => ?_)
    · exact absurd c5 (by decide)
    · skip
      refine lv_aload_n hx hb dX8_isSame_26 rfl (lv_at hl 2 rfl) ?_
      refine lv_iload_n hx hb dX8_isSame_27 rfl (lv_at hl 3 rfl) ?_
      refine lv_iload hx hb dX8_isSame_28 (lv_at hl 0 rfl) ?_
      refine lv_iadd hx hb dX8_isSame_30 ?_
      refine lv_topi (fun v6 ev6 => ?_)
      obtain rfl : 6 = v6 := (ev6.trans (by decide)).symm
      refine vp_callSi (W.runV (As := [.int 6]) (rest := []) ⟨hx, hb, hml, hown, ht⟩ (c_J0_charAt_5068e_1 l dC dI ak av 6 ⟨by decide, by decide⟩) (kV 1 ht m_715 m_716 m_717 m_91 m_718 rfl rfl hd_J0_charAt_5068e_v ⟨Nat.le_of_ble_eq_true rfl, Nat.le_of_ble_eq_true rfl⟩) (vRZ noP (hK.sub (tys' := []) [] rfl) hZ (vk_recv hZ.1.2.2.2.2.2 (i := 1) (by decide) va_S.rf)) rfl rfl hl.1 rfl (lv_room (Nat.le_of_ble_eq_true rfl)) dX8_isSame_31 ⟨Nat.le_of_ble_eq_true rfl, Nat.le_of_ble_eq_true rfl⟩) (fun r7 hr7 => ?_)
      obtain rfl : 115 = r7 := (hr7.trans (by decide)).symm
      refine lv_aload_n hx hb dX8_isSame_34 rfl (lv_at hl 1 rfl) ?_
      refine gX_8_1 hx hb ht hown hK hP m_229 dX8_isSame_35 ?_
      refine lv_aload_n hx hb dX8_isSame_38 rfl (lv_at hl 1 rfl) ?_
      refine gX_8_5 hx hb ht hown hK hP m_235 (v := (iv 8 5)) rfl dX8_isSame_39 ?_
      refine lv_iload hx hb dX8_isSame_42 (lv_at hl 0 rfl) ?_
      refine lv_iadd hx hb dX8_isSame_44 ?_
      refine lv_topi (fun v8 ev8 => ?_)
      have tv8 := z_add ev8 (rfl : ((iv 8 5)).toInt = _) (by decide : (0 : Int32).toInt = 0) (by omega) (by omega)
      have : 0 ≤ (v8 : Int32).toInt ∧ (v8 : Int32).toInt ≤ 199 := ⟨by omega, by omega⟩
      refine lX_8_1 hx hb hK hP (f := (fa 8 1)) rfl (vp_in_iff.mpr ⟨by omega, by omega⟩) dX8_isSame_45 ?_
      refine lv_topi (fun v9 ev9 => ?_)
      refine lv_icmp_eq (tgt := 51) hx hb dX8_isSame_46 (by decide) (fun c10 => ?_) (fun c10 => ?_)
      · have fc10 := z_eq (by decide : (115 : Int32).toInt = 115) (rfl : (v9).toInt = _) c10
        refine lv_iinc (v := 1) (lv' := [(5, .int 1), (0, .ref (g 11 4)), (1, .ref (ak 1)), (2, .int 6), (3, .int 12), (4, .int d)]) hx hb dX8_isSame_51 hl (k := 0) rfl (by decide) (by decide) rfl (fun ls hl => ?_)
        refine lv_goto (tgt := 18) hx hb dX8_isSame_54 (by decide) ?_
        refine lv_iload hx hb dX8_isSame_18 (lv_at hl 0 rfl) ?_
        refine lv_iload_n hx hb dX8_isSame_20 rfl (lv_at hl 4 rfl) ?_
        refine lv_iload_n hx hb dX8_isSame_21 rfl (lv_at hl 3 rfl) ?_
        refine lv_isub hx hb dX8_isSame_22 ?_
        refine lv_topi (fun v11 ev11 => ?_)
        obtain rfl : 6 = v11 := (ev11.trans (by decide)).symm
        refine lv_icmp_ge (tgt := 57) hx hb dX8_isSame_23 (by decide) (fun c12 => ?_) (fun c12 => ?_)
        · exact absurd c12 (by decide)
        · skip
          refine lv_aload_n hx hb dX8_isSame_26 rfl (lv_at hl 2 rfl) ?_
          refine lv_iload_n hx hb dX8_isSame_27 rfl (lv_at hl 3 rfl) ?_
          refine lv_iload hx hb dX8_isSame_28 (lv_at hl 0 rfl) ?_
          refine lv_iadd hx hb dX8_isSame_30 ?_
          refine lv_topi (fun v13 ev13 => ?_)
          obtain rfl : 7 = v13 := (ev13.trans (by decide)).symm
          refine vp_callSi (W.runV (As := [.int 7]) (rest := []) ⟨hx, hb, hml, hown, ht⟩ (c_J0_charAt_5068e_1 l dC dI ak av 7 ⟨by decide, by decide⟩) (kV 1 ht m_715 m_716 m_717 m_91 m_718 rfl rfl hd_J0_charAt_5068e_v ⟨Nat.le_of_ble_eq_true rfl, Nat.le_of_ble_eq_true rfl⟩) (vRZ noP (hK.sub (tys' := []) [] rfl) hZ (vk_recv hZ.1.2.2.2.2.2 (i := 1) (by decide) va_S.rf)) rfl rfl hl.1 rfl (lv_room (Nat.le_of_ble_eq_true rfl)) dX8_isSame_31 ⟨Nat.le_of_ble_eq_true rfl, Nat.le_of_ble_eq_true rfl⟩) (fun r14 hr14 => ?_)
          obtain rfl : 107 = r14 := (hr14.trans (by decide)).symm
          refine lv_aload_n hx hb dX8_isSame_34 rfl (lv_at hl 1 rfl) ?_
          refine gX_8_1 hx hb ht hown hK hP m_229 dX8_isSame_35 ?_
          refine lv_aload_n hx hb dX8_isSame_38 rfl (lv_at hl 1 rfl) ?_
          refine gX_8_5 hx hb ht hown hK hP m_235 (v := (iv 8 5)) rfl dX8_isSame_39 ?_
          refine lv_iload hx hb dX8_isSame_42 (lv_at hl 0 rfl) ?_
          refine lv_iadd hx hb dX8_isSame_44 ?_
          refine lv_topi (fun v15 ev15 => ?_)
          have tv15 := z_add ev15 (rfl : ((iv 8 5)).toInt = _) (by decide : (1 : Int32).toInt = 1) (by omega) (by omega)
          have : 0 ≤ (v15 : Int32).toInt ∧ (v15 : Int32).toInt ≤ 199 := ⟨by omega, by omega⟩
          refine lX_8_1 hx hb hK hP (f := (fa 8 1)) rfl (vp_in_iff.mpr ⟨by omega, by omega⟩) dX8_isSame_45 ?_
          refine lv_topi (fun v16 ev16 => ?_)
          refine lv_icmp_eq (tgt := 51) hx hb dX8_isSame_46 (by decide) (fun c17 => ?_) (fun c17 => ?_)
          · have fc17 := z_eq (by decide : (107 : Int32).toInt = 107) (rfl : (v16).toInt = _) c17
            refine lv_iinc (v := 2) (lv' := [(5, .int 2), (0, .ref (g 11 4)), (1, .ref (ak 1)), (2, .int 6), (3, .int 12), (4, .int d)]) hx hb dX8_isSame_51 hl (k := 0) rfl (by decide) (by decide) rfl (fun ls hl => ?_)
            refine lv_goto (tgt := 18) hx hb dX8_isSame_54 (by decide) ?_
            refine lv_iload hx hb dX8_isSame_18 (lv_at hl 0 rfl) ?_
            refine lv_iload_n hx hb dX8_isSame_20 rfl (lv_at hl 4 rfl) ?_
            refine lv_iload_n hx hb dX8_isSame_21 rfl (lv_at hl 3 rfl) ?_
            refine lv_isub hx hb dX8_isSame_22 ?_
            refine lv_topi (fun v18 ev18 => ?_)
            obtain rfl : 6 = v18 := (ev18.trans (by decide)).symm
            refine lv_icmp_ge (tgt := 57) hx hb dX8_isSame_23 (by decide) (fun c19 => ?_) (fun c19 => ?_)
            · exact absurd c19 (by decide)
            · skip
              refine lv_aload_n hx hb dX8_isSame_26 rfl (lv_at hl 2 rfl) ?_
              refine lv_iload_n hx hb dX8_isSame_27 rfl (lv_at hl 3 rfl) ?_
              refine lv_iload hx hb dX8_isSame_28 (lv_at hl 0 rfl) ?_
              refine lv_iadd hx hb dX8_isSame_30 ?_
              refine lv_topi (fun v20 ev20 => ?_)
              obtain rfl : 8 = v20 := (ev20.trans (by decide)).symm
              refine vp_callSi (W.runV (As := [.int 8]) (rest := []) ⟨hx, hb, hml, hown, ht⟩ (c_J0_charAt_5068e_1 l dC dI ak av 8 ⟨by decide, by decide⟩) (kV 1 ht m_715 m_716 m_717 m_91 m_718 rfl rfl hd_J0_charAt_5068e_v ⟨Nat.le_of_ble_eq_true rfl, Nat.le_of_ble_eq_true rfl⟩) (vRZ noP (hK.sub (tys' := []) [] rfl) hZ (vk_recv hZ.1.2.2.2.2.2 (i := 1) (by decide) va_S.rf)) rfl rfl hl.1 rfl (lv_room (Nat.le_of_ble_eq_true rfl)) dX8_isSame_31 ⟨Nat.le_of_ble_eq_true rfl, Nat.le_of_ble_eq_true rfl⟩) (fun r21 hr21 => ?_)
              obtain rfl : 101 = r21 := (hr21.trans (by decide)).symm
              refine lv_aload_n hx hb dX8_isSame_34 rfl (lv_at hl 1 rfl) ?_
              refine gX_8_1 hx hb ht hown hK hP m_229 dX8_isSame_35 ?_
              refine lv_aload_n hx hb dX8_isSame_38 rfl (lv_at hl 1 rfl) ?_
              refine gX_8_5 hx hb ht hown hK hP m_235 (v := (iv 8 5)) rfl dX8_isSame_39 ?_
              refine lv_iload hx hb dX8_isSame_42 (lv_at hl 0 rfl) ?_
              refine lv_iadd hx hb dX8_isSame_44 ?_
              refine lv_topi (fun v22 ev22 => ?_)
              have tv22 := z_add ev22 (rfl : ((iv 8 5)).toInt = _) (by decide : (2 : Int32).toInt = 2) (by omega) (by omega)
              have : 0 ≤ (v22 : Int32).toInt ∧ (v22 : Int32).toInt ≤ 199 := ⟨by omega, by omega⟩
              refine lX_8_1 hx hb hK hP (f := (fa 8 1)) rfl (vp_in_iff.mpr ⟨by omega, by omega⟩) dX8_isSame_45 ?_
              refine lv_topi (fun v23 ev23 => ?_)
              refine lv_icmp_eq (tgt := 51) hx hb dX8_isSame_46 (by decide) (fun c24 => ?_) (fun c24 => ?_)
              · have fc24 := z_eq (by decide : (101 : Int32).toInt = 101) (rfl : (v23).toInt = _) c24
                refine lv_iinc (v := 3) (lv' := [(5, .int 3), (0, .ref (g 11 4)), (1, .ref (ak 1)), (2, .int 6), (3, .int 12), (4, .int d)]) hx hb dX8_isSame_51 hl (k := 0) rfl (by decide) (by decide) rfl (fun ls hl => ?_)
                refine lv_goto (tgt := 18) hx hb dX8_isSame_54 (by decide) ?_
                refine lv_iload hx hb dX8_isSame_18 (lv_at hl 0 rfl) ?_
                refine lv_iload_n hx hb dX8_isSame_20 rfl (lv_at hl 4 rfl) ?_
                refine lv_iload_n hx hb dX8_isSame_21 rfl (lv_at hl 3 rfl) ?_
                refine lv_isub hx hb dX8_isSame_22 ?_
                refine lv_topi (fun v25 ev25 => ?_)
                obtain rfl : 6 = v25 := (ev25.trans (by decide)).symm
                refine lv_icmp_ge (tgt := 57) hx hb dX8_isSame_23 (by decide) (fun c26 => ?_) (fun c26 => ?_)
                · exact absurd c26 (by decide)
                · skip
                  refine lv_aload_n hx hb dX8_isSame_26 rfl (lv_at hl 2 rfl) ?_
                  refine lv_iload_n hx hb dX8_isSame_27 rfl (lv_at hl 3 rfl) ?_
                  refine lv_iload hx hb dX8_isSame_28 (lv_at hl 0 rfl) ?_
                  refine lv_iadd hx hb dX8_isSame_30 ?_
                  refine lv_topi (fun v27 ev27 => ?_)
                  obtain rfl : 9 = v27 := (ev27.trans (by decide)).symm
                  refine vp_callSi (W.runV (As := [.int 9]) (rest := []) ⟨hx, hb, hml, hown, ht⟩ (c_J0_charAt_5068e_1 l dC dI ak av 9 ⟨by decide, by decide⟩) (kV 1 ht m_715 m_716 m_717 m_91 m_718 rfl rfl hd_J0_charAt_5068e_v ⟨Nat.le_of_ble_eq_true rfl, Nat.le_of_ble_eq_true rfl⟩) (vRZ noP (hK.sub (tys' := []) [] rfl) hZ (vk_recv hZ.1.2.2.2.2.2 (i := 1) (by decide) va_S.rf)) rfl rfl hl.1 rfl (lv_room (Nat.le_of_ble_eq_true rfl)) dX8_isSame_31 ⟨Nat.le_of_ble_eq_true rfl, Nat.le_of_ble_eq_true rfl⟩) (fun r28 hr28 => ?_)
                  obtain rfl : 105 = r28 := (hr28.trans (by decide)).symm
                  refine lv_aload_n hx hb dX8_isSame_34 rfl (lv_at hl 1 rfl) ?_
                  refine gX_8_1 hx hb ht hown hK hP m_229 dX8_isSame_35 ?_
                  refine lv_aload_n hx hb dX8_isSame_38 rfl (lv_at hl 1 rfl) ?_
                  refine gX_8_5 hx hb ht hown hK hP m_235 (v := (iv 8 5)) rfl dX8_isSame_39 ?_
                  refine lv_iload hx hb dX8_isSame_42 (lv_at hl 0 rfl) ?_
                  refine lv_iadd hx hb dX8_isSame_44 ?_
                  refine lv_topi (fun v29 ev29 => ?_)
                  have tv29 := z_add ev29 (rfl : ((iv 8 5)).toInt = _) (by decide : (3 : Int32).toInt = 3) (by omega) (by omega)
                  have : 0 ≤ (v29 : Int32).toInt ∧ (v29 : Int32).toInt ≤ 199 := ⟨by omega, by omega⟩
                  refine lX_8_1 hx hb hK hP (f := (fa 8 1)) rfl (vp_in_iff.mpr ⟨by omega, by omega⟩) dX8_isSame_45 ?_
                  refine lv_topi (fun v30 ev30 => ?_)
                  refine lv_icmp_eq (tgt := 51) hx hb dX8_isSame_46 (by decide) (fun c31 => ?_) (fun c31 => ?_)
                  · have fc31 := z_eq (by decide : (105 : Int32).toInt = 105) (rfl : (v30).toInt = _) c31
                    refine lv_iinc (v := 4) (lv' := [(5, .int 4), (0, .ref (g 11 4)), (1, .ref (ak 1)), (2, .int 6), (3, .int 12), (4, .int d)]) hx hb dX8_isSame_51 hl (k := 0) rfl (by decide) (by decide) rfl (fun ls hl => ?_)
                    refine lv_goto (tgt := 18) hx hb dX8_isSame_54 (by decide) ?_
                    refine lv_iload hx hb dX8_isSame_18 (lv_at hl 0 rfl) ?_
                    refine lv_iload_n hx hb dX8_isSame_20 rfl (lv_at hl 4 rfl) ?_
                    refine lv_iload_n hx hb dX8_isSame_21 rfl (lv_at hl 3 rfl) ?_
                    refine lv_isub hx hb dX8_isSame_22 ?_
                    refine lv_topi (fun v32 ev32 => ?_)
                    obtain rfl : 6 = v32 := (ev32.trans (by decide)).symm
                    refine lv_icmp_ge (tgt := 57) hx hb dX8_isSame_23 (by decide) (fun c33 => ?_) (fun c33 => ?_)
                    · exact absurd c33 (by decide)
                    · skip
                      refine lv_aload_n hx hb dX8_isSame_26 rfl (lv_at hl 2 rfl) ?_
                      refine lv_iload_n hx hb dX8_isSame_27 rfl (lv_at hl 3 rfl) ?_
                      refine lv_iload hx hb dX8_isSame_28 (lv_at hl 0 rfl) ?_
                      refine lv_iadd hx hb dX8_isSame_30 ?_
                      refine lv_topi (fun v34 ev34 => ?_)
                      obtain rfl : 10 = v34 := (ev34.trans (by decide)).symm
                      refine vp_callSi (W.runV (As := [.int 10]) (rest := []) ⟨hx, hb, hml, hown, ht⟩ (c_J0_charAt_5068e_1 l dC dI ak av 10 ⟨by decide, by decide⟩) (kV 1 ht m_715 m_716 m_717 m_91 m_718 rfl rfl hd_J0_charAt_5068e_v ⟨Nat.le_of_ble_eq_true rfl, Nat.le_of_ble_eq_true rfl⟩) (vRZ noP (hK.sub (tys' := []) [] rfl) hZ (vk_recv hZ.1.2.2.2.2.2 (i := 1) (by decide) va_S.rf)) rfl rfl hl.1 rfl (lv_room (Nat.le_of_ble_eq_true rfl)) dX8_isSame_31 ⟨Nat.le_of_ble_eq_true rfl, Nat.le_of_ble_eq_true rfl⟩) (fun r35 hr35 => ?_)
                      obtain rfl : 110 = r35 := (hr35.trans (by decide)).symm
                      refine lv_aload_n hx hb dX8_isSame_34 rfl (lv_at hl 1 rfl) ?_
                      refine gX_8_1 hx hb ht hown hK hP m_229 dX8_isSame_35 ?_
                      refine lv_aload_n hx hb dX8_isSame_38 rfl (lv_at hl 1 rfl) ?_
                      refine gX_8_5 hx hb ht hown hK hP m_235 (v := (iv 8 5)) rfl dX8_isSame_39 ?_
                      refine lv_iload hx hb dX8_isSame_42 (lv_at hl 0 rfl) ?_
                      refine lv_iadd hx hb dX8_isSame_44 ?_
                      refine lv_topi (fun v36 ev36 => ?_)
                      have tv36 := z_add ev36 (rfl : ((iv 8 5)).toInt = _) (by decide : (4 : Int32).toInt = 4) (by omega) (by omega)
                      have : 0 ≤ (v36 : Int32).toInt ∧ (v36 : Int32).toInt ≤ 199 := ⟨by omega, by omega⟩
                      refine lX_8_1 hx hb hK hP (f := (fa 8 1)) rfl (vp_in_iff.mpr ⟨by omega, by omega⟩) dX8_isSame_45 ?_
                      refine lv_topi (fun v37 ev37 => ?_)
                      refine lv_icmp_eq (tgt := 51) hx hb dX8_isSame_46 (by decide) (fun c38 => ?_) (fun c38 => ?_)
                      · have fc38 := z_eq (by decide : (110 : Int32).toInt = 110) (rfl : (v37).toInt = _) c38
                        refine lv_iinc (v := 5) (lv' := [(5, .int 5), (0, .ref (g 11 4)), (1, .ref (ak 1)), (2, .int 6), (3, .int 12), (4, .int d)]) hx hb dX8_isSame_51 hl (k := 0) rfl (by decide) (by decide) rfl (fun ls hl => ?_)
                        refine lv_goto (tgt := 18) hx hb dX8_isSame_54 (by decide) ?_
                        refine lv_iload hx hb dX8_isSame_18 (lv_at hl 0 rfl) ?_
                        refine lv_iload_n hx hb dX8_isSame_20 rfl (lv_at hl 4 rfl) ?_
                        refine lv_iload_n hx hb dX8_isSame_21 rfl (lv_at hl 3 rfl) ?_
                        refine lv_isub hx hb dX8_isSame_22 ?_
                        refine lv_topi (fun v39 ev39 => ?_)
                        obtain rfl : 6 = v39 := (ev39.trans (by decide)).symm
                        refine lv_icmp_ge (tgt := 57) hx hb dX8_isSame_23 (by decide) (fun c40 => ?_) (fun c40 => ?_)
                        · exact absurd c40 (by decide)
                        · skip
                          refine lv_aload_n hx hb dX8_isSame_26 rfl (lv_at hl 2 rfl) ?_
                          refine lv_iload_n hx hb dX8_isSame_27 rfl (lv_at hl 3 rfl) ?_
                          refine lv_iload hx hb dX8_isSame_28 (lv_at hl 0 rfl) ?_
                          refine lv_iadd hx hb dX8_isSame_30 ?_
                          refine lv_topi (fun v41 ev41 => ?_)
                          obtain rfl : 11 = v41 := (ev41.trans (by decide)).symm
                          refine vp_callSi (W.runV (As := [.int 11]) (rest := []) ⟨hx, hb, hml, hown, ht⟩ (c_J0_charAt_5068e_1 l dC dI ak av 11 ⟨by decide, by decide⟩) (kV 1 ht m_715 m_716 m_717 m_91 m_718 rfl rfl hd_J0_charAt_5068e_v ⟨Nat.le_of_ble_eq_true rfl, Nat.le_of_ble_eq_true rfl⟩) (vRZ noP (hK.sub (tys' := []) [] rfl) hZ (vk_recv hZ.1.2.2.2.2.2 (i := 1) (by decide) va_S.rf)) rfl rfl hl.1 rfl (lv_room (Nat.le_of_ble_eq_true rfl)) dX8_isSame_31 ⟨Nat.le_of_ble_eq_true rfl, Nat.le_of_ble_eq_true rfl⟩) (fun r42 hr42 => ?_)
                          obtain rfl : 115 = r42 := (hr42.trans (by decide)).symm
                          refine lv_aload_n hx hb dX8_isSame_34 rfl (lv_at hl 1 rfl) ?_
                          refine gX_8_1 hx hb ht hown hK hP m_229 dX8_isSame_35 ?_
                          refine lv_aload_n hx hb dX8_isSame_38 rfl (lv_at hl 1 rfl) ?_
                          refine gX_8_5 hx hb ht hown hK hP m_235 (v := (iv 8 5)) rfl dX8_isSame_39 ?_
                          refine lv_iload hx hb dX8_isSame_42 (lv_at hl 0 rfl) ?_
                          refine lv_iadd hx hb dX8_isSame_44 ?_
                          refine lv_topi (fun v43 ev43 => ?_)
                          have tv43 := z_add ev43 (rfl : ((iv 8 5)).toInt = _) (by decide : (5 : Int32).toInt = 5) (by omega) (by omega)
                          have : 0 ≤ (v43 : Int32).toInt ∧ (v43 : Int32).toInt ≤ 199 := ⟨by omega, by omega⟩
                          refine lX_8_1 hx hb hK hP (f := (fa 8 1)) rfl (vp_in_iff.mpr ⟨by omega, by omega⟩) dX8_isSame_45 ?_
                          refine lv_topi (fun v44 ev44 => ?_)
                          refine lv_icmp_eq (tgt := 51) hx hb dX8_isSame_46 (by decide) (fun c45 => ?_) (fun c45 => ?_)
                          · have fc45 := z_eq (by decide : (115 : Int32).toInt = 115) (rfl : (v44).toInt = _) c45
                            refine lv_iinc (v := 6) (lv' := [(5, .int 6), (0, .ref (g 11 4)), (1, .ref (ak 1)), (2, .int 6), (3, .int 12), (4, .int d)]) hx hb dX8_isSame_51 hl (k := 0) rfl (by decide) (by decide) rfl (fun ls hl => ?_)
                            refine lv_goto (tgt := 18) hx hb dX8_isSame_54 (by decide) ?_
                            refine lv_iload hx hb dX8_isSame_18 (lv_at hl 0 rfl) ?_
                            refine lv_iload_n hx hb dX8_isSame_20 rfl (lv_at hl 4 rfl) ?_
                            refine lv_iload_n hx hb dX8_isSame_21 rfl (lv_at hl 3 rfl) ?_
                            refine lv_isub hx hb dX8_isSame_22 ?_
                            refine lv_topi (fun v46 ev46 => ?_)
                            obtain rfl : 6 = v46 := (ev46.trans (by decide)).symm
                            refine lv_icmp_ge (tgt := 57) hx hb dX8_isSame_23 (by decide) (fun c47 => ?_) (fun c47 => ?_)
                            · skip
                              refine lv_iconst (v := 1) hx hb dX8_isSame_57 (by decide) ?_
                              have : (1 : Int32).toInt = 1 := (by decide)
                              exact W.zret (v := 1) hx hb hr rfl (fun t ht9 hW => ⟨1, rfl, ⟨⟨by decide, by decide⟩, (show (((1 : Int32).toInt = 1 ∧ w_skeins (fun j => ((fa 8 1) j).toInt) ((iv 8 5) : Int32).toInt (d).toInt) ∨ ((1 : Int32).toInt = 0 ∧ ¬ w_skeins (fun j => ((fa 8 1) j).toInt) ((iv 8 5) : Int32).toInt (d).toInt)) from (by have q0 := congrArg Int32.toInt (ev9.trans (congrArg (fa 8 1) (show (v8 : Int32).toNatClampNeg = ((iv 8 5).toInt).toNat + 0 from (by show (v8 : Int32).toInt.toNat = _; omega)))); have q1 := congrArg Int32.toInt (ev16.trans (congrArg (fa 8 1) (show (v15 : Int32).toNatClampNeg = ((iv 8 5).toInt).toNat + 1 from (by show (v15 : Int32).toInt.toNat = _; omega)))); have q2 := congrArg Int32.toInt (ev23.trans (congrArg (fa 8 1) (show (v22 : Int32).toNatClampNeg = ((iv 8 5).toInt).toNat + 2 from (by show (v22 : Int32).toInt.toNat = _; omega)))); have q3 := congrArg Int32.toInt (ev30.trans (congrArg (fa 8 1) (show (v29 : Int32).toNatClampNeg = ((iv 8 5).toInt).toNat + 3 from (by show (v29 : Int32).toInt.toNat = _; omega)))); have q4 := congrArg Int32.toInt (ev37.trans (congrArg (fa 8 1) (show (v36 : Int32).toNatClampNeg = ((iv 8 5).toInt).toNat + 4 from (by show (v36 : Int32).toInt.toNat = _; omega)))); have q5 := congrArg Int32.toInt (ev44.trans (congrArg (fa 8 1) (show (v43 : Int32).toNatClampNeg = ((iv 8 5).toInt).toNat + 5 from (by show (v43 : Int32).toInt.toNat = _; omega)))); exact Or.inl ⟨by omega, (show d.toInt - (iv 8 5).toInt = 6 ∧ (fa 8 1 (((iv 8 5).toInt).toNat + 0)).toInt = 115 ∧ (fa 8 1 (((iv 8 5).toInt).toNat + 1)).toInt = 107 ∧ (fa 8 1 (((iv 8 5).toInt).toNat + 2)).toInt = 101 ∧ (fa 8 1 (((iv 8 5).toInt).toNat + 3)).toInt = 105 ∧ (fa 8 1 (((iv 8 5).toInt).toNat + 4)).toInt = 110 ∧ (fa 8 1 (((iv 8 5).toInt).toNat + 5)).toInt = 115 from ⟨by omega, by omega, by omega, by omega, by omega, by omega, by omega⟩)⟩))⟩, ht9⟩) (fun q hq => by cases hq) dX8_isSame_58
                            · exact absurd c47 (by decide)
                          · have fc45 := z_ne (by decide : (115 : Int32).toInt = 115) (rfl : (v44).toInt = _) c45
                            refine lv_iconst (v := 0) hx hb dX8_isSame_49 (by decide) ?_
                            have : (0 : Int32).toInt = 0 := (by decide)
                            exact W.zret (v := 0) hx hb hr rfl (fun t ht9 hW => ⟨0, rfl, ⟨⟨by decide, by decide⟩, (show (((0 : Int32).toInt = 1 ∧ w_skeins (fun j => ((fa 8 1) j).toInt) ((iv 8 5) : Int32).toInt (d).toInt) ∨ ((0 : Int32).toInt = 0 ∧ ¬ w_skeins (fun j => ((fa 8 1) j).toInt) ((iv 8 5) : Int32).toInt (d).toInt)) from (by have q0 := congrArg Int32.toInt (ev9.trans (congrArg (fa 8 1) (show (v8 : Int32).toNatClampNeg = ((iv 8 5).toInt).toNat + 0 from (by show (v8 : Int32).toInt.toNat = _; omega)))); have q1 := congrArg Int32.toInt (ev16.trans (congrArg (fa 8 1) (show (v15 : Int32).toNatClampNeg = ((iv 8 5).toInt).toNat + 1 from (by show (v15 : Int32).toInt.toNat = _; omega)))); have q2 := congrArg Int32.toInt (ev23.trans (congrArg (fa 8 1) (show (v22 : Int32).toNatClampNeg = ((iv 8 5).toInt).toNat + 2 from (by show (v22 : Int32).toInt.toNat = _; omega)))); have q3 := congrArg Int32.toInt (ev30.trans (congrArg (fa 8 1) (show (v29 : Int32).toNatClampNeg = ((iv 8 5).toInt).toNat + 3 from (by show (v29 : Int32).toInt.toNat = _; omega)))); have q4 := congrArg Int32.toInt (ev37.trans (congrArg (fa 8 1) (show (v36 : Int32).toNatClampNeg = ((iv 8 5).toInt).toNat + 4 from (by show (v36 : Int32).toInt.toNat = _; omega)))); have q5 := congrArg Int32.toInt (ev44.trans (congrArg (fa 8 1) (show (v43 : Int32).toNatClampNeg = ((iv 8 5).toInt).toNat + 5 from (by show (v43 : Int32).toInt.toNat = _; omega)))); exact Or.inr ⟨by omega, fun h9 => (by have h8 : d.toInt - (iv 8 5).toInt = 6 ∧ (fa 8 1 (((iv 8 5).toInt).toNat + 0)).toInt = 115 ∧ (fa 8 1 (((iv 8 5).toInt).toNat + 1)).toInt = 107 ∧ (fa 8 1 (((iv 8 5).toInt).toNat + 2)).toInt = 101 ∧ (fa 8 1 (((iv 8 5).toInt).toNat + 3)).toInt = 105 ∧ (fa 8 1 (((iv 8 5).toInt).toNat + 4)).toInt = 110 ∧ (fa 8 1 (((iv 8 5).toInt).toNat + 5)).toInt = 115 := h9; omega)⟩))⟩, ht9⟩) (fun q hq => by cases hq) dX8_isSame_50
                      · have fc38 := z_ne (by decide : (110 : Int32).toInt = 110) (rfl : (v37).toInt = _) c38
                        refine lv_iconst (v := 0) hx hb dX8_isSame_49 (by decide) ?_
                        have : (0 : Int32).toInt = 0 := (by decide)
                        exact W.zret (v := 0) hx hb hr rfl (fun t ht9 hW => ⟨0, rfl, ⟨⟨by decide, by decide⟩, (show (((0 : Int32).toInt = 1 ∧ w_skeins (fun j => ((fa 8 1) j).toInt) ((iv 8 5) : Int32).toInt (d).toInt) ∨ ((0 : Int32).toInt = 0 ∧ ¬ w_skeins (fun j => ((fa 8 1) j).toInt) ((iv 8 5) : Int32).toInt (d).toInt)) from (by have q0 := congrArg Int32.toInt (ev9.trans (congrArg (fa 8 1) (show (v8 : Int32).toNatClampNeg = ((iv 8 5).toInt).toNat + 0 from (by show (v8 : Int32).toInt.toNat = _; omega)))); have q1 := congrArg Int32.toInt (ev16.trans (congrArg (fa 8 1) (show (v15 : Int32).toNatClampNeg = ((iv 8 5).toInt).toNat + 1 from (by show (v15 : Int32).toInt.toNat = _; omega)))); have q2 := congrArg Int32.toInt (ev23.trans (congrArg (fa 8 1) (show (v22 : Int32).toNatClampNeg = ((iv 8 5).toInt).toNat + 2 from (by show (v22 : Int32).toInt.toNat = _; omega)))); have q3 := congrArg Int32.toInt (ev30.trans (congrArg (fa 8 1) (show (v29 : Int32).toNatClampNeg = ((iv 8 5).toInt).toNat + 3 from (by show (v29 : Int32).toInt.toNat = _; omega)))); have q4 := congrArg Int32.toInt (ev37.trans (congrArg (fa 8 1) (show (v36 : Int32).toNatClampNeg = ((iv 8 5).toInt).toNat + 4 from (by show (v36 : Int32).toInt.toNat = _; omega)))); exact Or.inr ⟨by omega, fun h9 => (by have h8 : d.toInt - (iv 8 5).toInt = 6 ∧ (fa 8 1 (((iv 8 5).toInt).toNat + 0)).toInt = 115 ∧ (fa 8 1 (((iv 8 5).toInt).toNat + 1)).toInt = 107 ∧ (fa 8 1 (((iv 8 5).toInt).toNat + 2)).toInt = 101 ∧ (fa 8 1 (((iv 8 5).toInt).toNat + 3)).toInt = 105 ∧ (fa 8 1 (((iv 8 5).toInt).toNat + 4)).toInt = 110 ∧ (fa 8 1 (((iv 8 5).toInt).toNat + 5)).toInt = 115 := h9; omega)⟩))⟩, ht9⟩) (fun q hq => by cases hq) dX8_isSame_50
                  · have fc31 := z_ne (by decide : (105 : Int32).toInt = 105) (rfl : (v30).toInt = _) c31
                    refine lv_iconst (v := 0) hx hb dX8_isSame_49 (by decide) ?_
                    have : (0 : Int32).toInt = 0 := (by decide)
                    exact W.zret (v := 0) hx hb hr rfl (fun t ht9 hW => ⟨0, rfl, ⟨⟨by decide, by decide⟩, (show (((0 : Int32).toInt = 1 ∧ w_skeins (fun j => ((fa 8 1) j).toInt) ((iv 8 5) : Int32).toInt (d).toInt) ∨ ((0 : Int32).toInt = 0 ∧ ¬ w_skeins (fun j => ((fa 8 1) j).toInt) ((iv 8 5) : Int32).toInt (d).toInt)) from (by have q0 := congrArg Int32.toInt (ev9.trans (congrArg (fa 8 1) (show (v8 : Int32).toNatClampNeg = ((iv 8 5).toInt).toNat + 0 from (by show (v8 : Int32).toInt.toNat = _; omega)))); have q1 := congrArg Int32.toInt (ev16.trans (congrArg (fa 8 1) (show (v15 : Int32).toNatClampNeg = ((iv 8 5).toInt).toNat + 1 from (by show (v15 : Int32).toInt.toNat = _; omega)))); have q2 := congrArg Int32.toInt (ev23.trans (congrArg (fa 8 1) (show (v22 : Int32).toNatClampNeg = ((iv 8 5).toInt).toNat + 2 from (by show (v22 : Int32).toInt.toNat = _; omega)))); have q3 := congrArg Int32.toInt (ev30.trans (congrArg (fa 8 1) (show (v29 : Int32).toNatClampNeg = ((iv 8 5).toInt).toNat + 3 from (by show (v29 : Int32).toInt.toNat = _; omega)))); exact Or.inr ⟨by omega, fun h9 => (by have h8 : d.toInt - (iv 8 5).toInt = 6 ∧ (fa 8 1 (((iv 8 5).toInt).toNat + 0)).toInt = 115 ∧ (fa 8 1 (((iv 8 5).toInt).toNat + 1)).toInt = 107 ∧ (fa 8 1 (((iv 8 5).toInt).toNat + 2)).toInt = 101 ∧ (fa 8 1 (((iv 8 5).toInt).toNat + 3)).toInt = 105 ∧ (fa 8 1 (((iv 8 5).toInt).toNat + 4)).toInt = 110 ∧ (fa 8 1 (((iv 8 5).toInt).toNat + 5)).toInt = 115 := h9; omega)⟩))⟩, ht9⟩) (fun q hq => by cases hq) dX8_isSame_50
              · have fc24 := z_ne (by decide : (101 : Int32).toInt = 101) (rfl : (v23).toInt = _) c24
                refine lv_iconst (v := 0) hx hb dX8_isSame_49 (by decide) ?_
                have : (0 : Int32).toInt = 0 := (by decide)
                exact W.zret (v := 0) hx hb hr rfl (fun t ht9 hW => ⟨0, rfl, ⟨⟨by decide, by decide⟩, (show (((0 : Int32).toInt = 1 ∧ w_skeins (fun j => ((fa 8 1) j).toInt) ((iv 8 5) : Int32).toInt (d).toInt) ∨ ((0 : Int32).toInt = 0 ∧ ¬ w_skeins (fun j => ((fa 8 1) j).toInt) ((iv 8 5) : Int32).toInt (d).toInt)) from (by have q0 := congrArg Int32.toInt (ev9.trans (congrArg (fa 8 1) (show (v8 : Int32).toNatClampNeg = ((iv 8 5).toInt).toNat + 0 from (by show (v8 : Int32).toInt.toNat = _; omega)))); have q1 := congrArg Int32.toInt (ev16.trans (congrArg (fa 8 1) (show (v15 : Int32).toNatClampNeg = ((iv 8 5).toInt).toNat + 1 from (by show (v15 : Int32).toInt.toNat = _; omega)))); have q2 := congrArg Int32.toInt (ev23.trans (congrArg (fa 8 1) (show (v22 : Int32).toNatClampNeg = ((iv 8 5).toInt).toNat + 2 from (by show (v22 : Int32).toInt.toNat = _; omega)))); exact Or.inr ⟨by omega, fun h9 => (by have h8 : d.toInt - (iv 8 5).toInt = 6 ∧ (fa 8 1 (((iv 8 5).toInt).toNat + 0)).toInt = 115 ∧ (fa 8 1 (((iv 8 5).toInt).toNat + 1)).toInt = 107 ∧ (fa 8 1 (((iv 8 5).toInt).toNat + 2)).toInt = 101 ∧ (fa 8 1 (((iv 8 5).toInt).toNat + 3)).toInt = 105 ∧ (fa 8 1 (((iv 8 5).toInt).toNat + 4)).toInt = 110 ∧ (fa 8 1 (((iv 8 5).toInt).toNat + 5)).toInt = 115 := h9; omega)⟩))⟩, ht9⟩) (fun q hq => by cases hq) dX8_isSame_50
          · have fc17 := z_ne (by decide : (107 : Int32).toInt = 107) (rfl : (v16).toInt = _) c17
            refine lv_iconst (v := 0) hx hb dX8_isSame_49 (by decide) ?_
            have : (0 : Int32).toInt = 0 := (by decide)
            exact W.zret (v := 0) hx hb hr rfl (fun t ht9 hW => ⟨0, rfl, ⟨⟨by decide, by decide⟩, (show (((0 : Int32).toInt = 1 ∧ w_skeins (fun j => ((fa 8 1) j).toInt) ((iv 8 5) : Int32).toInt (d).toInt) ∨ ((0 : Int32).toInt = 0 ∧ ¬ w_skeins (fun j => ((fa 8 1) j).toInt) ((iv 8 5) : Int32).toInt (d).toInt)) from (by have q0 := congrArg Int32.toInt (ev9.trans (congrArg (fa 8 1) (show (v8 : Int32).toNatClampNeg = ((iv 8 5).toInt).toNat + 0 from (by show (v8 : Int32).toInt.toNat = _; omega)))); have q1 := congrArg Int32.toInt (ev16.trans (congrArg (fa 8 1) (show (v15 : Int32).toNatClampNeg = ((iv 8 5).toInt).toNat + 1 from (by show (v15 : Int32).toInt.toNat = _; omega)))); exact Or.inr ⟨by omega, fun h9 => (by have h8 : d.toInt - (iv 8 5).toInt = 6 ∧ (fa 8 1 (((iv 8 5).toInt).toNat + 0)).toInt = 115 ∧ (fa 8 1 (((iv 8 5).toInt).toNat + 1)).toInt = 107 ∧ (fa 8 1 (((iv 8 5).toInt).toNat + 2)).toInt = 101 ∧ (fa 8 1 (((iv 8 5).toInt).toNat + 3)).toInt = 105 ∧ (fa 8 1 (((iv 8 5).toInt).toNat + 4)).toInt = 110 ∧ (fa 8 1 (((iv 8 5).toInt).toNat + 5)).toInt = 115 := h9; omega)⟩))⟩, ht9⟩) (fun q hq => by cases hq) dX8_isSame_50
      · have fc10 := z_ne (by decide : (115 : Int32).toInt = 115) (rfl : (v9).toInt = _) c10
        refine lv_iconst (v := 0) hx hb dX8_isSame_49 (by decide) ?_
        have : (0 : Int32).toInt = 0 := (by decide)
        exact W.zret (v := 0) hx hb hr rfl (fun t ht9 hW => ⟨0, rfl, ⟨⟨by decide, by decide⟩, (show (((0 : Int32).toInt = 1 ∧ w_skeins (fun j => ((fa 8 1) j).toInt) ((iv 8 5) : Int32).toInt (d).toInt) ∨ ((0 : Int32).toInt = 0 ∧ ¬ w_skeins (fun j => ((fa 8 1) j).toInt) ((iv 8 5) : Int32).toInt (d).toInt)) from (by have q0 := congrArg Int32.toInt (ev9.trans (congrArg (fa 8 1) (show (v8 : Int32).toNatClampNeg = ((iv 8 5).toInt).toNat + 0 from (by show (v8 : Int32).toInt.toNat = _; omega)))); exact Or.inr ⟨by omega, fun h9 => (by have h8 : d.toInt - (iv 8 5).toInt = 6 ∧ (fa 8 1 (((iv 8 5).toInt).toNat + 0)).toInt = 115 ∧ (fa 8 1 (((iv 8 5).toInt).toNat + 1)).toInt = 107 ∧ (fa 8 1 (((iv 8 5).toInt).toNat + 2)).toInt = 101 ∧ (fa 8 1 (((iv 8 5).toInt).toNat + 3)).toInt = 105 ∧ (fa 8 1 (((iv 8 5).toInt).toNat + 4)).toInt = 110 ∧ (fa 8 1 (((iv 8 5).toInt).toNat + 5)).toInt = 115 := h9; omega)⟩))⟩, ht9⟩) (fun q hq => by cases hq) dX8_isSame_50
  · have fc3 := z_ne (by decide : (6 : Int32).toInt = 6) (rfl : (v2).toInt = _) c3
    refine lv_iconst (v := 0) hx hb dX8_isSame_13 (by decide) ?_
    have : (0 : Int32).toInt = 0 := (by decide)
    exact W.zret (v := 0) hx hb hr rfl (fun t ht9 hW => ⟨0, rfl, ⟨⟨by decide, by decide⟩, (show (((0 : Int32).toInt = 1 ∧ w_skeins (fun j => ((fa 8 1) j).toInt) ((iv 8 5) : Int32).toInt (d).toInt) ∨ ((0 : Int32).toInt = 0 ∧ ¬ w_skeins (fun j => ((fa 8 1) j).toInt) ((iv 8 5) : Int32).toInt (d).toInt)) from (by exact Or.inr ⟨by omega, fun h9 => (by have h8 : d.toInt - (iv 8 5).toInt = 6 ∧ (fa 8 1 (((iv 8 5).toInt).toNat + 0)).toInt = 115 ∧ (fa 8 1 (((iv 8 5).toInt).toNat + 1)).toInt = 107 ∧ (fa 8 1 (((iv 8 5).toInt).toNat + 2)).toInt = 101 ∧ (fa 8 1 (((iv 8 5).toInt).toNat + 3)).toInt = 105 ∧ (fa 8 1 (((iv 8 5).toInt).toNat + 4)).toInt = 110 ∧ (fa 8 1 (((iv 8 5).toInt).toNat + 5)).toInt = 115 := h9; omega)⟩))⟩, ht9⟩) (fun q hq => by cases hq) dX8_isSame_14
set_option maxHeartbeats 4000000 in
set_option maxRecDepth 100000 in
/-- X8_isSame -/
theorem c_X8_isSame_r1_13 (l : Launch) (dC : Nat → ClassId) (dI : Nat → Nat → Nat) (ak av : Nat → Nat) (h : Nat) (g : Nat → Nat → Nat) (ca : Nat → Nat → ClassId) (iv : Nat → Nat → Int32) (lv : Nat → Nat → Int64) (fa : Nat → Nat → Nat → Int32) (la : Nat → Nat → Nat → Int64) (hI : IX iv fa) (d : Int32) (h_d : 0 ≤ d.toInt ∧ d.toInt ≤ 200) : Met l yX8_isSame (wc yX8_isSame cX8_isSame 6 (some .boolean)) ({ frames := 4, cells := 0, slots := 0, locals := 85 } : Room) (pRZ ak av (dC, dI) classes (WX h g ca iv lv fa la) (TX ca) [.ref (g 11 4), .ref (ak 1), .int 13, .int 17, .int d]) (vp_Si (fun r => (0 ≤ r.toInt ∧ r.toInt ≤ 1) ∧ (((r.toInt = 1 ∧ w_part (fun j => ((fa 8 1) j).toInt) (iv 8 5).toInt d.toInt) ∨ (r.toInt = 0 ∧ ¬ w_part (fun j => ((fa 8 1) j).toInt) (iv 8 5).toInt d.toInt))))) 0 0 (fun _ => False) := by
  refine Met.ofW (cc := cX8_isSame) (maxL := 6) (ret := (some .boolean)) (by decide) rfl ?_
  intro p e s m args below meth c s₁ B hml hv
  obtain ⟨rfl, hP, hK, hZ⟩ := hv
  have hx := B.exec
  have hb := B.bytes
  have hr := B.returns
  have ht := tb_tl (atoms_spec (ws := wc yX8_isSame cX8_isSame 6 (some .boolean)) B.pre)
  have hown : s.vm.findClass RX8 = some m.cls := findClass_of_methodNamed B.named
  have hlocks := B.notSynchronized
  have hl := lv_entry [.ref (g 11 4), .ref (ak 1), .int 13, .int 17, .int d] (n := 6) (Nat.le_of_ble_eq_true rfl)
  rw [lg_entry_eq]
  generalize (lg_sl [.ref (g 11 4), .ref (ak 1), .int 13, .int 17, .int d] ++ List.replicate (6 - (lg_sl [.ref (g 11 4), .ref (ak 1), .int 13, .int 17, .int d]).length) Slot.unset).toArray = ls at hl ⊢
  have hl : lv_has ls 6 [(0, .ref (g 11 4)), (1, .ref (ak 1)), (2, .int 13), (3, .int 17), (4, .int d)] := hl
  refine lv_iload_n hx hb dX8_isSame_0 rfl (lv_at hl 3 rfl) ?_
  refine lv_iload_n hx hb dX8_isSame_1 rfl (lv_at hl 2 rfl) ?_
  refine lv_isub hx hb dX8_isSame_2 ?_
  refine lv_topi (fun v1 ev1 => ?_)
  obtain rfl : 4 = v1 := (ev1.trans (by decide)).symm
  refine lv_iload hx hb dX8_isSame_3 (lv_at hl 4 rfl) ?_
  refine lv_aload_n hx hb dX8_isSame_5 rfl (lv_at hl 0 rfl) ?_
  have i_8_5 : 0 ≤ (iv 8 5).toInt ∧ (iv 8 5).toInt ≤ 200 := hI.1 8 5
  refine gX_8_5 hx hb ht hown hK hP m_235 (v := (iv 8 5)) rfl dX8_isSame_6 ?_
  refine lv_isub hx hb dX8_isSame_9 ?_
  refine lv_topi (fun v2 ev2 => ?_)
  have tv2 := z_sub ev2 (rfl : (d).toInt = _) (rfl : ((iv 8 5)).toInt = _) (by omega) (by omega)
  refine lv_icmp_eq (tgt := 15) hx hb dX8_isSame_10 (by decide) (fun c3 => ?_) (fun c3 => ?_)
  · have fc3 := z_eq (by decide : (4 : Int32).toInt = 4) (rfl : (v2).toInt = _) c3
    refine lv_iconst (v := 0) hx hb dX8_isSame_15 (by decide) ?_
    refine lv_istore (lv' := [(5, .int 0), (0, .ref (g 11 4)), (1, .ref (ak 1)), (2, .int 13), (3, .int 17), (4, .int d)]) hx hb dX8_isSame_16 hl (by decide) rfl (fun ls hl => ?_)
    refine lv_iload hx hb dX8_isSame_18 (lv_at hl 0 rfl) ?_
    refine lv_iload_n hx hb dX8_isSame_20 rfl (lv_at hl 4 rfl) ?_
    refine lv_iload_n hx hb dX8_isSame_21 rfl (lv_at hl 3 rfl) ?_
    refine lv_isub hx hb dX8_isSame_22 ?_
    refine lv_topi (fun v4 ev4 => ?_)
    obtain rfl : 4 = v4 := (ev4.trans (by decide)).symm
    refine lv_icmp_ge (tgt := 57) hx hb dX8_isSame_23 (by decide) (fun c5 => ?_) (fun c5 => ?_)
    · exact absurd c5 (by decide)
    · skip
      refine lv_aload_n hx hb dX8_isSame_26 rfl (lv_at hl 2 rfl) ?_
      refine lv_iload_n hx hb dX8_isSame_27 rfl (lv_at hl 3 rfl) ?_
      refine lv_iload hx hb dX8_isSame_28 (lv_at hl 0 rfl) ?_
      refine lv_iadd hx hb dX8_isSame_30 ?_
      refine lv_topi (fun v6 ev6 => ?_)
      obtain rfl : 13 = v6 := (ev6.trans (by decide)).symm
      refine vp_callSi (W.runV (As := [.int 13]) (rest := []) ⟨hx, hb, hml, hown, ht⟩ (c_J0_charAt_5068e_1 l dC dI ak av 13 ⟨by decide, by decide⟩) (kV 1 ht m_715 m_716 m_717 m_91 m_718 rfl rfl hd_J0_charAt_5068e_v ⟨Nat.le_of_ble_eq_true rfl, Nat.le_of_ble_eq_true rfl⟩) (vRZ noP (hK.sub (tys' := []) [] rfl) hZ (vk_recv hZ.1.2.2.2.2.2 (i := 1) (by decide) va_S.rf)) rfl rfl hl.1 rfl (lv_room (Nat.le_of_ble_eq_true rfl)) dX8_isSame_31 ⟨Nat.le_of_ble_eq_true rfl, Nat.le_of_ble_eq_true rfl⟩) (fun r7 hr7 => ?_)
      obtain rfl : 112 = r7 := (hr7.trans (by decide)).symm
      refine lv_aload_n hx hb dX8_isSame_34 rfl (lv_at hl 1 rfl) ?_
      refine gX_8_1 hx hb ht hown hK hP m_229 dX8_isSame_35 ?_
      refine lv_aload_n hx hb dX8_isSame_38 rfl (lv_at hl 1 rfl) ?_
      refine gX_8_5 hx hb ht hown hK hP m_235 (v := (iv 8 5)) rfl dX8_isSame_39 ?_
      refine lv_iload hx hb dX8_isSame_42 (lv_at hl 0 rfl) ?_
      refine lv_iadd hx hb dX8_isSame_44 ?_
      refine lv_topi (fun v8 ev8 => ?_)
      have tv8 := z_add ev8 (rfl : ((iv 8 5)).toInt = _) (by decide : (0 : Int32).toInt = 0) (by omega) (by omega)
      have : 0 ≤ (v8 : Int32).toInt ∧ (v8 : Int32).toInt ≤ 199 := ⟨by omega, by omega⟩
      refine lX_8_1 hx hb hK hP (f := (fa 8 1)) rfl (vp_in_iff.mpr ⟨by omega, by omega⟩) dX8_isSame_45 ?_
      refine lv_topi (fun v9 ev9 => ?_)
      refine lv_icmp_eq (tgt := 51) hx hb dX8_isSame_46 (by decide) (fun c10 => ?_) (fun c10 => ?_)
      · have fc10 := z_eq (by decide : (112 : Int32).toInt = 112) (rfl : (v9).toInt = _) c10
        refine lv_iinc (v := 1) (lv' := [(5, .int 1), (0, .ref (g 11 4)), (1, .ref (ak 1)), (2, .int 13), (3, .int 17), (4, .int d)]) hx hb dX8_isSame_51 hl (k := 0) rfl (by decide) (by decide) rfl (fun ls hl => ?_)
        refine lv_goto (tgt := 18) hx hb dX8_isSame_54 (by decide) ?_
        refine lv_iload hx hb dX8_isSame_18 (lv_at hl 0 rfl) ?_
        refine lv_iload_n hx hb dX8_isSame_20 rfl (lv_at hl 4 rfl) ?_
        refine lv_iload_n hx hb dX8_isSame_21 rfl (lv_at hl 3 rfl) ?_
        refine lv_isub hx hb dX8_isSame_22 ?_
        refine lv_topi (fun v11 ev11 => ?_)
        obtain rfl : 4 = v11 := (ev11.trans (by decide)).symm
        refine lv_icmp_ge (tgt := 57) hx hb dX8_isSame_23 (by decide) (fun c12 => ?_) (fun c12 => ?_)
        · exact absurd c12 (by decide)
        · skip
          refine lv_aload_n hx hb dX8_isSame_26 rfl (lv_at hl 2 rfl) ?_
          refine lv_iload_n hx hb dX8_isSame_27 rfl (lv_at hl 3 rfl) ?_
          refine lv_iload hx hb dX8_isSame_28 (lv_at hl 0 rfl) ?_
          refine lv_iadd hx hb dX8_isSame_30 ?_
          refine lv_topi (fun v13 ev13 => ?_)
          obtain rfl : 14 = v13 := (ev13.trans (by decide)).symm
          refine vp_callSi (W.runV (As := [.int 14]) (rest := []) ⟨hx, hb, hml, hown, ht⟩ (c_J0_charAt_5068e_1 l dC dI ak av 14 ⟨by decide, by decide⟩) (kV 1 ht m_715 m_716 m_717 m_91 m_718 rfl rfl hd_J0_charAt_5068e_v ⟨Nat.le_of_ble_eq_true rfl, Nat.le_of_ble_eq_true rfl⟩) (vRZ noP (hK.sub (tys' := []) [] rfl) hZ (vk_recv hZ.1.2.2.2.2.2 (i := 1) (by decide) va_S.rf)) rfl rfl hl.1 rfl (lv_room (Nat.le_of_ble_eq_true rfl)) dX8_isSame_31 ⟨Nat.le_of_ble_eq_true rfl, Nat.le_of_ble_eq_true rfl⟩) (fun r14 hr14 => ?_)
          obtain rfl : 97 = r14 := (hr14.trans (by decide)).symm
          refine lv_aload_n hx hb dX8_isSame_34 rfl (lv_at hl 1 rfl) ?_
          refine gX_8_1 hx hb ht hown hK hP m_229 dX8_isSame_35 ?_
          refine lv_aload_n hx hb dX8_isSame_38 rfl (lv_at hl 1 rfl) ?_
          refine gX_8_5 hx hb ht hown hK hP m_235 (v := (iv 8 5)) rfl dX8_isSame_39 ?_
          refine lv_iload hx hb dX8_isSame_42 (lv_at hl 0 rfl) ?_
          refine lv_iadd hx hb dX8_isSame_44 ?_
          refine lv_topi (fun v15 ev15 => ?_)
          have tv15 := z_add ev15 (rfl : ((iv 8 5)).toInt = _) (by decide : (1 : Int32).toInt = 1) (by omega) (by omega)
          have : 0 ≤ (v15 : Int32).toInt ∧ (v15 : Int32).toInt ≤ 199 := ⟨by omega, by omega⟩
          refine lX_8_1 hx hb hK hP (f := (fa 8 1)) rfl (vp_in_iff.mpr ⟨by omega, by omega⟩) dX8_isSame_45 ?_
          refine lv_topi (fun v16 ev16 => ?_)
          refine lv_icmp_eq (tgt := 51) hx hb dX8_isSame_46 (by decide) (fun c17 => ?_) (fun c17 => ?_)
          · have fc17 := z_eq (by decide : (97 : Int32).toInt = 97) (rfl : (v16).toInt = _) c17
            refine lv_iinc (v := 2) (lv' := [(5, .int 2), (0, .ref (g 11 4)), (1, .ref (ak 1)), (2, .int 13), (3, .int 17), (4, .int d)]) hx hb dX8_isSame_51 hl (k := 0) rfl (by decide) (by decide) rfl (fun ls hl => ?_)
            refine lv_goto (tgt := 18) hx hb dX8_isSame_54 (by decide) ?_
            refine lv_iload hx hb dX8_isSame_18 (lv_at hl 0 rfl) ?_
            refine lv_iload_n hx hb dX8_isSame_20 rfl (lv_at hl 4 rfl) ?_
            refine lv_iload_n hx hb dX8_isSame_21 rfl (lv_at hl 3 rfl) ?_
            refine lv_isub hx hb dX8_isSame_22 ?_
            refine lv_topi (fun v18 ev18 => ?_)
            obtain rfl : 4 = v18 := (ev18.trans (by decide)).symm
            refine lv_icmp_ge (tgt := 57) hx hb dX8_isSame_23 (by decide) (fun c19 => ?_) (fun c19 => ?_)
            · exact absurd c19 (by decide)
            · skip
              refine lv_aload_n hx hb dX8_isSame_26 rfl (lv_at hl 2 rfl) ?_
              refine lv_iload_n hx hb dX8_isSame_27 rfl (lv_at hl 3 rfl) ?_
              refine lv_iload hx hb dX8_isSame_28 (lv_at hl 0 rfl) ?_
              refine lv_iadd hx hb dX8_isSame_30 ?_
              refine lv_topi (fun v20 ev20 => ?_)
              obtain rfl : 15 = v20 := (ev20.trans (by decide)).symm
              refine vp_callSi (W.runV (As := [.int 15]) (rest := []) ⟨hx, hb, hml, hown, ht⟩ (c_J0_charAt_5068e_1 l dC dI ak av 15 ⟨by decide, by decide⟩) (kV 1 ht m_715 m_716 m_717 m_91 m_718 rfl rfl hd_J0_charAt_5068e_v ⟨Nat.le_of_ble_eq_true rfl, Nat.le_of_ble_eq_true rfl⟩) (vRZ noP (hK.sub (tys' := []) [] rfl) hZ (vk_recv hZ.1.2.2.2.2.2 (i := 1) (by decide) va_S.rf)) rfl rfl hl.1 rfl (lv_room (Nat.le_of_ble_eq_true rfl)) dX8_isSame_31 ⟨Nat.le_of_ble_eq_true rfl, Nat.le_of_ble_eq_true rfl⟩) (fun r21 hr21 => ?_)
              obtain rfl : 114 = r21 := (hr21.trans (by decide)).symm
              refine lv_aload_n hx hb dX8_isSame_34 rfl (lv_at hl 1 rfl) ?_
              refine gX_8_1 hx hb ht hown hK hP m_229 dX8_isSame_35 ?_
              refine lv_aload_n hx hb dX8_isSame_38 rfl (lv_at hl 1 rfl) ?_
              refine gX_8_5 hx hb ht hown hK hP m_235 (v := (iv 8 5)) rfl dX8_isSame_39 ?_
              refine lv_iload hx hb dX8_isSame_42 (lv_at hl 0 rfl) ?_
              refine lv_iadd hx hb dX8_isSame_44 ?_
              refine lv_topi (fun v22 ev22 => ?_)
              have tv22 := z_add ev22 (rfl : ((iv 8 5)).toInt = _) (by decide : (2 : Int32).toInt = 2) (by omega) (by omega)
              have : 0 ≤ (v22 : Int32).toInt ∧ (v22 : Int32).toInt ≤ 199 := ⟨by omega, by omega⟩
              refine lX_8_1 hx hb hK hP (f := (fa 8 1)) rfl (vp_in_iff.mpr ⟨by omega, by omega⟩) dX8_isSame_45 ?_
              refine lv_topi (fun v23 ev23 => ?_)
              refine lv_icmp_eq (tgt := 51) hx hb dX8_isSame_46 (by decide) (fun c24 => ?_) (fun c24 => ?_)
              · have fc24 := z_eq (by decide : (114 : Int32).toInt = 114) (rfl : (v23).toInt = _) c24
                refine lv_iinc (v := 3) (lv' := [(5, .int 3), (0, .ref (g 11 4)), (1, .ref (ak 1)), (2, .int 13), (3, .int 17), (4, .int d)]) hx hb dX8_isSame_51 hl (k := 0) rfl (by decide) (by decide) rfl (fun ls hl => ?_)
                refine lv_goto (tgt := 18) hx hb dX8_isSame_54 (by decide) ?_
                refine lv_iload hx hb dX8_isSame_18 (lv_at hl 0 rfl) ?_
                refine lv_iload_n hx hb dX8_isSame_20 rfl (lv_at hl 4 rfl) ?_
                refine lv_iload_n hx hb dX8_isSame_21 rfl (lv_at hl 3 rfl) ?_
                refine lv_isub hx hb dX8_isSame_22 ?_
                refine lv_topi (fun v25 ev25 => ?_)
                obtain rfl : 4 = v25 := (ev25.trans (by decide)).symm
                refine lv_icmp_ge (tgt := 57) hx hb dX8_isSame_23 (by decide) (fun c26 => ?_) (fun c26 => ?_)
                · exact absurd c26 (by decide)
                · skip
                  refine lv_aload_n hx hb dX8_isSame_26 rfl (lv_at hl 2 rfl) ?_
                  refine lv_iload_n hx hb dX8_isSame_27 rfl (lv_at hl 3 rfl) ?_
                  refine lv_iload hx hb dX8_isSame_28 (lv_at hl 0 rfl) ?_
                  refine lv_iadd hx hb dX8_isSame_30 ?_
                  refine lv_topi (fun v27 ev27 => ?_)
                  obtain rfl : 16 = v27 := (ev27.trans (by decide)).symm
                  refine vp_callSi (W.runV (As := [.int 16]) (rest := []) ⟨hx, hb, hml, hown, ht⟩ (c_J0_charAt_5068e_1 l dC dI ak av 16 ⟨by decide, by decide⟩) (kV 1 ht m_715 m_716 m_717 m_91 m_718 rfl rfl hd_J0_charAt_5068e_v ⟨Nat.le_of_ble_eq_true rfl, Nat.le_of_ble_eq_true rfl⟩) (vRZ noP (hK.sub (tys' := []) [] rfl) hZ (vk_recv hZ.1.2.2.2.2.2 (i := 1) (by decide) va_S.rf)) rfl rfl hl.1 rfl (lv_room (Nat.le_of_ble_eq_true rfl)) dX8_isSame_31 ⟨Nat.le_of_ble_eq_true rfl, Nat.le_of_ble_eq_true rfl⟩) (fun r28 hr28 => ?_)
                  obtain rfl : 116 = r28 := (hr28.trans (by decide)).symm
                  refine lv_aload_n hx hb dX8_isSame_34 rfl (lv_at hl 1 rfl) ?_
                  refine gX_8_1 hx hb ht hown hK hP m_229 dX8_isSame_35 ?_
                  refine lv_aload_n hx hb dX8_isSame_38 rfl (lv_at hl 1 rfl) ?_
                  refine gX_8_5 hx hb ht hown hK hP m_235 (v := (iv 8 5)) rfl dX8_isSame_39 ?_
                  refine lv_iload hx hb dX8_isSame_42 (lv_at hl 0 rfl) ?_
                  refine lv_iadd hx hb dX8_isSame_44 ?_
                  refine lv_topi (fun v29 ev29 => ?_)
                  have tv29 := z_add ev29 (rfl : ((iv 8 5)).toInt = _) (by decide : (3 : Int32).toInt = 3) (by omega) (by omega)
                  have : 0 ≤ (v29 : Int32).toInt ∧ (v29 : Int32).toInt ≤ 199 := ⟨by omega, by omega⟩
                  refine lX_8_1 hx hb hK hP (f := (fa 8 1)) rfl (vp_in_iff.mpr ⟨by omega, by omega⟩) dX8_isSame_45 ?_
                  refine lv_topi (fun v30 ev30 => ?_)
                  refine lv_icmp_eq (tgt := 51) hx hb dX8_isSame_46 (by decide) (fun c31 => ?_) (fun c31 => ?_)
                  · have fc31 := z_eq (by decide : (116 : Int32).toInt = 116) (rfl : (v30).toInt = _) c31
                    refine lv_iinc (v := 4) (lv' := [(5, .int 4), (0, .ref (g 11 4)), (1, .ref (ak 1)), (2, .int 13), (3, .int 17), (4, .int d)]) hx hb dX8_isSame_51 hl (k := 0) rfl (by decide) (by decide) rfl (fun ls hl => ?_)
                    refine lv_goto (tgt := 18) hx hb dX8_isSame_54 (by decide) ?_
                    refine lv_iload hx hb dX8_isSame_18 (lv_at hl 0 rfl) ?_
                    refine lv_iload_n hx hb dX8_isSame_20 rfl (lv_at hl 4 rfl) ?_
                    refine lv_iload_n hx hb dX8_isSame_21 rfl (lv_at hl 3 rfl) ?_
                    refine lv_isub hx hb dX8_isSame_22 ?_
                    refine lv_topi (fun v32 ev32 => ?_)
                    obtain rfl : 4 = v32 := (ev32.trans (by decide)).symm
                    refine lv_icmp_ge (tgt := 57) hx hb dX8_isSame_23 (by decide) (fun c33 => ?_) (fun c33 => ?_)
                    · skip
                      refine lv_iconst (v := 1) hx hb dX8_isSame_57 (by decide) ?_
                      have : (1 : Int32).toInt = 1 := (by decide)
                      exact W.zret (v := 1) hx hb hr rfl (fun t ht9 hW => ⟨1, rfl, ⟨⟨by decide, by decide⟩, (show (((1 : Int32).toInt = 1 ∧ w_part (fun j => ((fa 8 1) j).toInt) ((iv 8 5) : Int32).toInt (d).toInt) ∨ ((1 : Int32).toInt = 0 ∧ ¬ w_part (fun j => ((fa 8 1) j).toInt) ((iv 8 5) : Int32).toInt (d).toInt)) from (by have q0 := congrArg Int32.toInt (ev9.trans (congrArg (fa 8 1) (show (v8 : Int32).toNatClampNeg = ((iv 8 5).toInt).toNat + 0 from (by show (v8 : Int32).toInt.toNat = _; omega)))); have q1 := congrArg Int32.toInt (ev16.trans (congrArg (fa 8 1) (show (v15 : Int32).toNatClampNeg = ((iv 8 5).toInt).toNat + 1 from (by show (v15 : Int32).toInt.toNat = _; omega)))); have q2 := congrArg Int32.toInt (ev23.trans (congrArg (fa 8 1) (show (v22 : Int32).toNatClampNeg = ((iv 8 5).toInt).toNat + 2 from (by show (v22 : Int32).toInt.toNat = _; omega)))); have q3 := congrArg Int32.toInt (ev30.trans (congrArg (fa 8 1) (show (v29 : Int32).toNatClampNeg = ((iv 8 5).toInt).toNat + 3 from (by show (v29 : Int32).toInt.toNat = _; omega)))); exact Or.inl ⟨by omega, (show d.toInt - (iv 8 5).toInt = 4 ∧ (fa 8 1 (((iv 8 5).toInt).toNat + 0)).toInt = 112 ∧ (fa 8 1 (((iv 8 5).toInt).toNat + 1)).toInt = 97 ∧ (fa 8 1 (((iv 8 5).toInt).toNat + 2)).toInt = 114 ∧ (fa 8 1 (((iv 8 5).toInt).toNat + 3)).toInt = 116 from ⟨by omega, by omega, by omega, by omega, by omega⟩)⟩))⟩, ht9⟩) (fun q hq => by cases hq) dX8_isSame_58
                    · exact absurd c33 (by decide)
                  · have fc31 := z_ne (by decide : (116 : Int32).toInt = 116) (rfl : (v30).toInt = _) c31
                    refine lv_iconst (v := 0) hx hb dX8_isSame_49 (by decide) ?_
                    have : (0 : Int32).toInt = 0 := (by decide)
                    exact W.zret (v := 0) hx hb hr rfl (fun t ht9 hW => ⟨0, rfl, ⟨⟨by decide, by decide⟩, (show (((0 : Int32).toInt = 1 ∧ w_part (fun j => ((fa 8 1) j).toInt) ((iv 8 5) : Int32).toInt (d).toInt) ∨ ((0 : Int32).toInt = 0 ∧ ¬ w_part (fun j => ((fa 8 1) j).toInt) ((iv 8 5) : Int32).toInt (d).toInt)) from (by have q0 := congrArg Int32.toInt (ev9.trans (congrArg (fa 8 1) (show (v8 : Int32).toNatClampNeg = ((iv 8 5).toInt).toNat + 0 from (by show (v8 : Int32).toInt.toNat = _; omega)))); have q1 := congrArg Int32.toInt (ev16.trans (congrArg (fa 8 1) (show (v15 : Int32).toNatClampNeg = ((iv 8 5).toInt).toNat + 1 from (by show (v15 : Int32).toInt.toNat = _; omega)))); have q2 := congrArg Int32.toInt (ev23.trans (congrArg (fa 8 1) (show (v22 : Int32).toNatClampNeg = ((iv 8 5).toInt).toNat + 2 from (by show (v22 : Int32).toInt.toNat = _; omega)))); have q3 := congrArg Int32.toInt (ev30.trans (congrArg (fa 8 1) (show (v29 : Int32).toNatClampNeg = ((iv 8 5).toInt).toNat + 3 from (by show (v29 : Int32).toInt.toNat = _; omega)))); exact Or.inr ⟨by omega, fun h9 => (by have h8 : d.toInt - (iv 8 5).toInt = 4 ∧ (fa 8 1 (((iv 8 5).toInt).toNat + 0)).toInt = 112 ∧ (fa 8 1 (((iv 8 5).toInt).toNat + 1)).toInt = 97 ∧ (fa 8 1 (((iv 8 5).toInt).toNat + 2)).toInt = 114 ∧ (fa 8 1 (((iv 8 5).toInt).toNat + 3)).toInt = 116 := h9; omega)⟩))⟩, ht9⟩) (fun q hq => by cases hq) dX8_isSame_50
              · have fc24 := z_ne (by decide : (114 : Int32).toInt = 114) (rfl : (v23).toInt = _) c24
                refine lv_iconst (v := 0) hx hb dX8_isSame_49 (by decide) ?_
                have : (0 : Int32).toInt = 0 := (by decide)
                exact W.zret (v := 0) hx hb hr rfl (fun t ht9 hW => ⟨0, rfl, ⟨⟨by decide, by decide⟩, (show (((0 : Int32).toInt = 1 ∧ w_part (fun j => ((fa 8 1) j).toInt) ((iv 8 5) : Int32).toInt (d).toInt) ∨ ((0 : Int32).toInt = 0 ∧ ¬ w_part (fun j => ((fa 8 1) j).toInt) ((iv 8 5) : Int32).toInt (d).toInt)) from (by have q0 := congrArg Int32.toInt (ev9.trans (congrArg (fa 8 1) (show (v8 : Int32).toNatClampNeg = ((iv 8 5).toInt).toNat + 0 from (by show (v8 : Int32).toInt.toNat = _; omega)))); have q1 := congrArg Int32.toInt (ev16.trans (congrArg (fa 8 1) (show (v15 : Int32).toNatClampNeg = ((iv 8 5).toInt).toNat + 1 from (by show (v15 : Int32).toInt.toNat = _; omega)))); have q2 := congrArg Int32.toInt (ev23.trans (congrArg (fa 8 1) (show (v22 : Int32).toNatClampNeg = ((iv 8 5).toInt).toNat + 2 from (by show (v22 : Int32).toInt.toNat = _; omega)))); exact Or.inr ⟨by omega, fun h9 => (by have h8 : d.toInt - (iv 8 5).toInt = 4 ∧ (fa 8 1 (((iv 8 5).toInt).toNat + 0)).toInt = 112 ∧ (fa 8 1 (((iv 8 5).toInt).toNat + 1)).toInt = 97 ∧ (fa 8 1 (((iv 8 5).toInt).toNat + 2)).toInt = 114 ∧ (fa 8 1 (((iv 8 5).toInt).toNat + 3)).toInt = 116 := h9; omega)⟩))⟩, ht9⟩) (fun q hq => by cases hq) dX8_isSame_50
          · have fc17 := z_ne (by decide : (97 : Int32).toInt = 97) (rfl : (v16).toInt = _) c17
            refine lv_iconst (v := 0) hx hb dX8_isSame_49 (by decide) ?_
            have : (0 : Int32).toInt = 0 := (by decide)
            exact W.zret (v := 0) hx hb hr rfl (fun t ht9 hW => ⟨0, rfl, ⟨⟨by decide, by decide⟩, (show (((0 : Int32).toInt = 1 ∧ w_part (fun j => ((fa 8 1) j).toInt) ((iv 8 5) : Int32).toInt (d).toInt) ∨ ((0 : Int32).toInt = 0 ∧ ¬ w_part (fun j => ((fa 8 1) j).toInt) ((iv 8 5) : Int32).toInt (d).toInt)) from (by have q0 := congrArg Int32.toInt (ev9.trans (congrArg (fa 8 1) (show (v8 : Int32).toNatClampNeg = ((iv 8 5).toInt).toNat + 0 from (by show (v8 : Int32).toInt.toNat = _; omega)))); have q1 := congrArg Int32.toInt (ev16.trans (congrArg (fa 8 1) (show (v15 : Int32).toNatClampNeg = ((iv 8 5).toInt).toNat + 1 from (by show (v15 : Int32).toInt.toNat = _; omega)))); exact Or.inr ⟨by omega, fun h9 => (by have h8 : d.toInt - (iv 8 5).toInt = 4 ∧ (fa 8 1 (((iv 8 5).toInt).toNat + 0)).toInt = 112 ∧ (fa 8 1 (((iv 8 5).toInt).toNat + 1)).toInt = 97 ∧ (fa 8 1 (((iv 8 5).toInt).toNat + 2)).toInt = 114 ∧ (fa 8 1 (((iv 8 5).toInt).toNat + 3)).toInt = 116 := h9; omega)⟩))⟩, ht9⟩) (fun q hq => by cases hq) dX8_isSame_50
      · have fc10 := z_ne (by decide : (112 : Int32).toInt = 112) (rfl : (v9).toInt = _) c10
        refine lv_iconst (v := 0) hx hb dX8_isSame_49 (by decide) ?_
        have : (0 : Int32).toInt = 0 := (by decide)
        exact W.zret (v := 0) hx hb hr rfl (fun t ht9 hW => ⟨0, rfl, ⟨⟨by decide, by decide⟩, (show (((0 : Int32).toInt = 1 ∧ w_part (fun j => ((fa 8 1) j).toInt) ((iv 8 5) : Int32).toInt (d).toInt) ∨ ((0 : Int32).toInt = 0 ∧ ¬ w_part (fun j => ((fa 8 1) j).toInt) ((iv 8 5) : Int32).toInt (d).toInt)) from (by have q0 := congrArg Int32.toInt (ev9.trans (congrArg (fa 8 1) (show (v8 : Int32).toNatClampNeg = ((iv 8 5).toInt).toNat + 0 from (by show (v8 : Int32).toInt.toNat = _; omega)))); exact Or.inr ⟨by omega, fun h9 => (by have h8 : d.toInt - (iv 8 5).toInt = 4 ∧ (fa 8 1 (((iv 8 5).toInt).toNat + 0)).toInt = 112 ∧ (fa 8 1 (((iv 8 5).toInt).toNat + 1)).toInt = 97 ∧ (fa 8 1 (((iv 8 5).toInt).toNat + 2)).toInt = 114 ∧ (fa 8 1 (((iv 8 5).toInt).toNat + 3)).toInt = 116 := h9; omega)⟩))⟩, ht9⟩) (fun q hq => by cases hq) dX8_isSame_50
  · have fc3 := z_ne (by decide : (4 : Int32).toInt = 4) (rfl : (v2).toInt = _) c3
    refine lv_iconst (v := 0) hx hb dX8_isSame_13 (by decide) ?_
    have : (0 : Int32).toInt = 0 := (by decide)
    exact W.zret (v := 0) hx hb hr rfl (fun t ht9 hW => ⟨0, rfl, ⟨⟨by decide, by decide⟩, (show (((0 : Int32).toInt = 1 ∧ w_part (fun j => ((fa 8 1) j).toInt) ((iv 8 5) : Int32).toInt (d).toInt) ∨ ((0 : Int32).toInt = 0 ∧ ¬ w_part (fun j => ((fa 8 1) j).toInt) ((iv 8 5) : Int32).toInt (d).toInt)) from (by exact Or.inr ⟨by omega, fun h9 => (by have h8 : d.toInt - (iv 8 5).toInt = 4 ∧ (fa 8 1 (((iv 8 5).toInt).toNat + 0)).toInt = 112 ∧ (fa 8 1 (((iv 8 5).toInt).toNat + 1)).toInt = 97 ∧ (fa 8 1 (((iv 8 5).toInt).toNat + 2)).toInt = 114 ∧ (fa 8 1 (((iv 8 5).toInt).toNat + 3)).toInt = 116 := h9; omega)⟩))⟩, ht9⟩) (fun q hq => by cases hq) dX8_isSame_14
set_option maxHeartbeats 4000000 in
set_option maxRecDepth 100000 in
/-- X8_isSame -/
theorem c_X8_isSame_r1_18 (l : Launch) (dC : Nat → ClassId) (dI : Nat → Nat → Nat) (ak av : Nat → Nat) (h : Nat) (g : Nat → Nat → Nat) (ca : Nat → Nat → ClassId) (iv : Nat → Nat → Int32) (lv : Nat → Nat → Int64) (fa : Nat → Nat → Nat → Int32) (la : Nat → Nat → Nat → Int64) (hI : IX iv fa) (d : Int32) (h_d : 0 ≤ d.toInt ∧ d.toInt ≤ 200) : Met l yX8_isSame (wc yX8_isSame cX8_isSame 6 (some .boolean)) ({ frames := 4, cells := 0, slots := 0, locals := 85 } : Room) (pRZ ak av (dC, dI) classes (WX h g ca iv lv fa la) (TX ca) [.ref (g 11 4), .ref (ak 1), .int 18, .int 23, .int d]) (vp_Si (fun r => (0 ≤ r.toInt ∧ r.toInt ≤ 1) ∧ (((r.toInt = 1 ∧ w_looks (fun j => ((fa 8 1) j).toInt) (iv 8 5).toInt d.toInt) ∨ (r.toInt = 0 ∧ ¬ w_looks (fun j => ((fa 8 1) j).toInt) (iv 8 5).toInt d.toInt))))) 0 0 (fun _ => False) := by
  refine Met.ofW (cc := cX8_isSame) (maxL := 6) (ret := (some .boolean)) (by decide) rfl ?_
  intro p e s m args below meth c s₁ B hml hv
  obtain ⟨rfl, hP, hK, hZ⟩ := hv
  have hx := B.exec
  have hb := B.bytes
  have hr := B.returns
  have ht := tb_tl (atoms_spec (ws := wc yX8_isSame cX8_isSame 6 (some .boolean)) B.pre)
  have hown : s.vm.findClass RX8 = some m.cls := findClass_of_methodNamed B.named
  have hlocks := B.notSynchronized
  have hl := lv_entry [.ref (g 11 4), .ref (ak 1), .int 18, .int 23, .int d] (n := 6) (Nat.le_of_ble_eq_true rfl)
  rw [lg_entry_eq]
  generalize (lg_sl [.ref (g 11 4), .ref (ak 1), .int 18, .int 23, .int d] ++ List.replicate (6 - (lg_sl [.ref (g 11 4), .ref (ak 1), .int 18, .int 23, .int d]).length) Slot.unset).toArray = ls at hl ⊢
  have hl : lv_has ls 6 [(0, .ref (g 11 4)), (1, .ref (ak 1)), (2, .int 18), (3, .int 23), (4, .int d)] := hl
  refine lv_iload_n hx hb dX8_isSame_0 rfl (lv_at hl 3 rfl) ?_
  refine lv_iload_n hx hb dX8_isSame_1 rfl (lv_at hl 2 rfl) ?_
  refine lv_isub hx hb dX8_isSame_2 ?_
  refine lv_topi (fun v1 ev1 => ?_)
  obtain rfl : 5 = v1 := (ev1.trans (by decide)).symm
  refine lv_iload hx hb dX8_isSame_3 (lv_at hl 4 rfl) ?_
  refine lv_aload_n hx hb dX8_isSame_5 rfl (lv_at hl 0 rfl) ?_
  have i_8_5 : 0 ≤ (iv 8 5).toInt ∧ (iv 8 5).toInt ≤ 200 := hI.1 8 5
  refine gX_8_5 hx hb ht hown hK hP m_235 (v := (iv 8 5)) rfl dX8_isSame_6 ?_
  refine lv_isub hx hb dX8_isSame_9 ?_
  refine lv_topi (fun v2 ev2 => ?_)
  have tv2 := z_sub ev2 (rfl : (d).toInt = _) (rfl : ((iv 8 5)).toInt = _) (by omega) (by omega)
  refine lv_icmp_eq (tgt := 15) hx hb dX8_isSame_10 (by decide) (fun c3 => ?_) (fun c3 => ?_)
  · have fc3 := z_eq (by decide : (5 : Int32).toInt = 5) (rfl : (v2).toInt = _) c3
    refine lv_iconst (v := 0) hx hb dX8_isSame_15 (by decide) ?_
    refine lv_istore (lv' := [(5, .int 0), (0, .ref (g 11 4)), (1, .ref (ak 1)), (2, .int 18), (3, .int 23), (4, .int d)]) hx hb dX8_isSame_16 hl (by decide) rfl (fun ls hl => ?_)
    refine lv_iload hx hb dX8_isSame_18 (lv_at hl 0 rfl) ?_
    refine lv_iload_n hx hb dX8_isSame_20 rfl (lv_at hl 4 rfl) ?_
    refine lv_iload_n hx hb dX8_isSame_21 rfl (lv_at hl 3 rfl) ?_
    refine lv_isub hx hb dX8_isSame_22 ?_
    refine lv_topi (fun v4 ev4 => ?_)
    obtain rfl : 5 = v4 := (ev4.trans (by decide)).symm
    refine lv_icmp_ge (tgt := 57) hx hb dX8_isSame_23 (by decide) (fun c5 => ?_) (fun c5 => ?_)
    · exact absurd c5 (by decide)
    · skip
      refine lv_aload_n hx hb dX8_isSame_26 rfl (lv_at hl 2 rfl) ?_
      refine lv_iload_n hx hb dX8_isSame_27 rfl (lv_at hl 3 rfl) ?_
      refine lv_iload hx hb dX8_isSame_28 (lv_at hl 0 rfl) ?_
      refine lv_iadd hx hb dX8_isSame_30 ?_
      refine lv_topi (fun v6 ev6 => ?_)
      obtain rfl : 18 = v6 := (ev6.trans (by decide)).symm
      refine vp_callSi (W.runV (As := [.int 18]) (rest := []) ⟨hx, hb, hml, hown, ht⟩ (c_J0_charAt_5068e_1 l dC dI ak av 18 ⟨by decide, by decide⟩) (kV 1 ht m_715 m_716 m_717 m_91 m_718 rfl rfl hd_J0_charAt_5068e_v ⟨Nat.le_of_ble_eq_true rfl, Nat.le_of_ble_eq_true rfl⟩) (vRZ noP (hK.sub (tys' := []) [] rfl) hZ (vk_recv hZ.1.2.2.2.2.2 (i := 1) (by decide) va_S.rf)) rfl rfl hl.1 rfl (lv_room (Nat.le_of_ble_eq_true rfl)) dX8_isSame_31 ⟨Nat.le_of_ble_eq_true rfl, Nat.le_of_ble_eq_true rfl⟩) (fun r7 hr7 => ?_)
      obtain rfl : 108 = r7 := (hr7.trans (by decide)).symm
      refine lv_aload_n hx hb dX8_isSame_34 rfl (lv_at hl 1 rfl) ?_
      refine gX_8_1 hx hb ht hown hK hP m_229 dX8_isSame_35 ?_
      refine lv_aload_n hx hb dX8_isSame_38 rfl (lv_at hl 1 rfl) ?_
      refine gX_8_5 hx hb ht hown hK hP m_235 (v := (iv 8 5)) rfl dX8_isSame_39 ?_
      refine lv_iload hx hb dX8_isSame_42 (lv_at hl 0 rfl) ?_
      refine lv_iadd hx hb dX8_isSame_44 ?_
      refine lv_topi (fun v8 ev8 => ?_)
      have tv8 := z_add ev8 (rfl : ((iv 8 5)).toInt = _) (by decide : (0 : Int32).toInt = 0) (by omega) (by omega)
      have : 0 ≤ (v8 : Int32).toInt ∧ (v8 : Int32).toInt ≤ 199 := ⟨by omega, by omega⟩
      refine lX_8_1 hx hb hK hP (f := (fa 8 1)) rfl (vp_in_iff.mpr ⟨by omega, by omega⟩) dX8_isSame_45 ?_
      refine lv_topi (fun v9 ev9 => ?_)
      refine lv_icmp_eq (tgt := 51) hx hb dX8_isSame_46 (by decide) (fun c10 => ?_) (fun c10 => ?_)
      · have fc10 := z_eq (by decide : (108 : Int32).toInt = 108) (rfl : (v9).toInt = _) c10
        refine lv_iinc (v := 1) (lv' := [(5, .int 1), (0, .ref (g 11 4)), (1, .ref (ak 1)), (2, .int 18), (3, .int 23), (4, .int d)]) hx hb dX8_isSame_51 hl (k := 0) rfl (by decide) (by decide) rfl (fun ls hl => ?_)
        refine lv_goto (tgt := 18) hx hb dX8_isSame_54 (by decide) ?_
        refine lv_iload hx hb dX8_isSame_18 (lv_at hl 0 rfl) ?_
        refine lv_iload_n hx hb dX8_isSame_20 rfl (lv_at hl 4 rfl) ?_
        refine lv_iload_n hx hb dX8_isSame_21 rfl (lv_at hl 3 rfl) ?_
        refine lv_isub hx hb dX8_isSame_22 ?_
        refine lv_topi (fun v11 ev11 => ?_)
        obtain rfl : 5 = v11 := (ev11.trans (by decide)).symm
        refine lv_icmp_ge (tgt := 57) hx hb dX8_isSame_23 (by decide) (fun c12 => ?_) (fun c12 => ?_)
        · exact absurd c12 (by decide)
        · skip
          refine lv_aload_n hx hb dX8_isSame_26 rfl (lv_at hl 2 rfl) ?_
          refine lv_iload_n hx hb dX8_isSame_27 rfl (lv_at hl 3 rfl) ?_
          refine lv_iload hx hb dX8_isSame_28 (lv_at hl 0 rfl) ?_
          refine lv_iadd hx hb dX8_isSame_30 ?_
          refine lv_topi (fun v13 ev13 => ?_)
          obtain rfl : 19 = v13 := (ev13.trans (by decide)).symm
          refine vp_callSi (W.runV (As := [.int 19]) (rest := []) ⟨hx, hb, hml, hown, ht⟩ (c_J0_charAt_5068e_1 l dC dI ak av 19 ⟨by decide, by decide⟩) (kV 1 ht m_715 m_716 m_717 m_91 m_718 rfl rfl hd_J0_charAt_5068e_v ⟨Nat.le_of_ble_eq_true rfl, Nat.le_of_ble_eq_true rfl⟩) (vRZ noP (hK.sub (tys' := []) [] rfl) hZ (vk_recv hZ.1.2.2.2.2.2 (i := 1) (by decide) va_S.rf)) rfl rfl hl.1 rfl (lv_room (Nat.le_of_ble_eq_true rfl)) dX8_isSame_31 ⟨Nat.le_of_ble_eq_true rfl, Nat.le_of_ble_eq_true rfl⟩) (fun r14 hr14 => ?_)
          obtain rfl : 111 = r14 := (hr14.trans (by decide)).symm
          refine lv_aload_n hx hb dX8_isSame_34 rfl (lv_at hl 1 rfl) ?_
          refine gX_8_1 hx hb ht hown hK hP m_229 dX8_isSame_35 ?_
          refine lv_aload_n hx hb dX8_isSame_38 rfl (lv_at hl 1 rfl) ?_
          refine gX_8_5 hx hb ht hown hK hP m_235 (v := (iv 8 5)) rfl dX8_isSame_39 ?_
          refine lv_iload hx hb dX8_isSame_42 (lv_at hl 0 rfl) ?_
          refine lv_iadd hx hb dX8_isSame_44 ?_
          refine lv_topi (fun v15 ev15 => ?_)
          have tv15 := z_add ev15 (rfl : ((iv 8 5)).toInt = _) (by decide : (1 : Int32).toInt = 1) (by omega) (by omega)
          have : 0 ≤ (v15 : Int32).toInt ∧ (v15 : Int32).toInt ≤ 199 := ⟨by omega, by omega⟩
          refine lX_8_1 hx hb hK hP (f := (fa 8 1)) rfl (vp_in_iff.mpr ⟨by omega, by omega⟩) dX8_isSame_45 ?_
          refine lv_topi (fun v16 ev16 => ?_)
          refine lv_icmp_eq (tgt := 51) hx hb dX8_isSame_46 (by decide) (fun c17 => ?_) (fun c17 => ?_)
          · have fc17 := z_eq (by decide : (111 : Int32).toInt = 111) (rfl : (v16).toInt = _) c17
            refine lv_iinc (v := 2) (lv' := [(5, .int 2), (0, .ref (g 11 4)), (1, .ref (ak 1)), (2, .int 18), (3, .int 23), (4, .int d)]) hx hb dX8_isSame_51 hl (k := 0) rfl (by decide) (by decide) rfl (fun ls hl => ?_)
            refine lv_goto (tgt := 18) hx hb dX8_isSame_54 (by decide) ?_
            refine lv_iload hx hb dX8_isSame_18 (lv_at hl 0 rfl) ?_
            refine lv_iload_n hx hb dX8_isSame_20 rfl (lv_at hl 4 rfl) ?_
            refine lv_iload_n hx hb dX8_isSame_21 rfl (lv_at hl 3 rfl) ?_
            refine lv_isub hx hb dX8_isSame_22 ?_
            refine lv_topi (fun v18 ev18 => ?_)
            obtain rfl : 5 = v18 := (ev18.trans (by decide)).symm
            refine lv_icmp_ge (tgt := 57) hx hb dX8_isSame_23 (by decide) (fun c19 => ?_) (fun c19 => ?_)
            · exact absurd c19 (by decide)
            · skip
              refine lv_aload_n hx hb dX8_isSame_26 rfl (lv_at hl 2 rfl) ?_
              refine lv_iload_n hx hb dX8_isSame_27 rfl (lv_at hl 3 rfl) ?_
              refine lv_iload hx hb dX8_isSame_28 (lv_at hl 0 rfl) ?_
              refine lv_iadd hx hb dX8_isSame_30 ?_
              refine lv_topi (fun v20 ev20 => ?_)
              obtain rfl : 20 = v20 := (ev20.trans (by decide)).symm
              refine vp_callSi (W.runV (As := [.int 20]) (rest := []) ⟨hx, hb, hml, hown, ht⟩ (c_J0_charAt_5068e_1 l dC dI ak av 20 ⟨by decide, by decide⟩) (kV 1 ht m_715 m_716 m_717 m_91 m_718 rfl rfl hd_J0_charAt_5068e_v ⟨Nat.le_of_ble_eq_true rfl, Nat.le_of_ble_eq_true rfl⟩) (vRZ noP (hK.sub (tys' := []) [] rfl) hZ (vk_recv hZ.1.2.2.2.2.2 (i := 1) (by decide) va_S.rf)) rfl rfl hl.1 rfl (lv_room (Nat.le_of_ble_eq_true rfl)) dX8_isSame_31 ⟨Nat.le_of_ble_eq_true rfl, Nat.le_of_ble_eq_true rfl⟩) (fun r21 hr21 => ?_)
              obtain rfl : 111 = r21 := (hr21.trans (by decide)).symm
              refine lv_aload_n hx hb dX8_isSame_34 rfl (lv_at hl 1 rfl) ?_
              refine gX_8_1 hx hb ht hown hK hP m_229 dX8_isSame_35 ?_
              refine lv_aload_n hx hb dX8_isSame_38 rfl (lv_at hl 1 rfl) ?_
              refine gX_8_5 hx hb ht hown hK hP m_235 (v := (iv 8 5)) rfl dX8_isSame_39 ?_
              refine lv_iload hx hb dX8_isSame_42 (lv_at hl 0 rfl) ?_
              refine lv_iadd hx hb dX8_isSame_44 ?_
              refine lv_topi (fun v22 ev22 => ?_)
              have tv22 := z_add ev22 (rfl : ((iv 8 5)).toInt = _) (by decide : (2 : Int32).toInt = 2) (by omega) (by omega)
              have : 0 ≤ (v22 : Int32).toInt ∧ (v22 : Int32).toInt ≤ 199 := ⟨by omega, by omega⟩
              refine lX_8_1 hx hb hK hP (f := (fa 8 1)) rfl (vp_in_iff.mpr ⟨by omega, by omega⟩) dX8_isSame_45 ?_
              refine lv_topi (fun v23 ev23 => ?_)
              refine lv_icmp_eq (tgt := 51) hx hb dX8_isSame_46 (by decide) (fun c24 => ?_) (fun c24 => ?_)
              · have fc24 := z_eq (by decide : (111 : Int32).toInt = 111) (rfl : (v23).toInt = _) c24
                refine lv_iinc (v := 3) (lv' := [(5, .int 3), (0, .ref (g 11 4)), (1, .ref (ak 1)), (2, .int 18), (3, .int 23), (4, .int d)]) hx hb dX8_isSame_51 hl (k := 0) rfl (by decide) (by decide) rfl (fun ls hl => ?_)
                refine lv_goto (tgt := 18) hx hb dX8_isSame_54 (by decide) ?_
                refine lv_iload hx hb dX8_isSame_18 (lv_at hl 0 rfl) ?_
                refine lv_iload_n hx hb dX8_isSame_20 rfl (lv_at hl 4 rfl) ?_
                refine lv_iload_n hx hb dX8_isSame_21 rfl (lv_at hl 3 rfl) ?_
                refine lv_isub hx hb dX8_isSame_22 ?_
                refine lv_topi (fun v25 ev25 => ?_)
                obtain rfl : 5 = v25 := (ev25.trans (by decide)).symm
                refine lv_icmp_ge (tgt := 57) hx hb dX8_isSame_23 (by decide) (fun c26 => ?_) (fun c26 => ?_)
                · exact absurd c26 (by decide)
                · skip
                  refine lv_aload_n hx hb dX8_isSame_26 rfl (lv_at hl 2 rfl) ?_
                  refine lv_iload_n hx hb dX8_isSame_27 rfl (lv_at hl 3 rfl) ?_
                  refine lv_iload hx hb dX8_isSame_28 (lv_at hl 0 rfl) ?_
                  refine lv_iadd hx hb dX8_isSame_30 ?_
                  refine lv_topi (fun v27 ev27 => ?_)
                  obtain rfl : 21 = v27 := (ev27.trans (by decide)).symm
                  refine vp_callSi (W.runV (As := [.int 21]) (rest := []) ⟨hx, hb, hml, hown, ht⟩ (c_J0_charAt_5068e_1 l dC dI ak av 21 ⟨by decide, by decide⟩) (kV 1 ht m_715 m_716 m_717 m_91 m_718 rfl rfl hd_J0_charAt_5068e_v ⟨Nat.le_of_ble_eq_true rfl, Nat.le_of_ble_eq_true rfl⟩) (vRZ noP (hK.sub (tys' := []) [] rfl) hZ (vk_recv hZ.1.2.2.2.2.2 (i := 1) (by decide) va_S.rf)) rfl rfl hl.1 rfl (lv_room (Nat.le_of_ble_eq_true rfl)) dX8_isSame_31 ⟨Nat.le_of_ble_eq_true rfl, Nat.le_of_ble_eq_true rfl⟩) (fun r28 hr28 => ?_)
                  obtain rfl : 107 = r28 := (hr28.trans (by decide)).symm
                  refine lv_aload_n hx hb dX8_isSame_34 rfl (lv_at hl 1 rfl) ?_
                  refine gX_8_1 hx hb ht hown hK hP m_229 dX8_isSame_35 ?_
                  refine lv_aload_n hx hb dX8_isSame_38 rfl (lv_at hl 1 rfl) ?_
                  refine gX_8_5 hx hb ht hown hK hP m_235 (v := (iv 8 5)) rfl dX8_isSame_39 ?_
                  refine lv_iload hx hb dX8_isSame_42 (lv_at hl 0 rfl) ?_
                  refine lv_iadd hx hb dX8_isSame_44 ?_
                  refine lv_topi (fun v29 ev29 => ?_)
                  have tv29 := z_add ev29 (rfl : ((iv 8 5)).toInt = _) (by decide : (3 : Int32).toInt = 3) (by omega) (by omega)
                  have : 0 ≤ (v29 : Int32).toInt ∧ (v29 : Int32).toInt ≤ 199 := ⟨by omega, by omega⟩
                  refine lX_8_1 hx hb hK hP (f := (fa 8 1)) rfl (vp_in_iff.mpr ⟨by omega, by omega⟩) dX8_isSame_45 ?_
                  refine lv_topi (fun v30 ev30 => ?_)
                  refine lv_icmp_eq (tgt := 51) hx hb dX8_isSame_46 (by decide) (fun c31 => ?_) (fun c31 => ?_)
                  · have fc31 := z_eq (by decide : (107 : Int32).toInt = 107) (rfl : (v30).toInt = _) c31
                    refine lv_iinc (v := 4) (lv' := [(5, .int 4), (0, .ref (g 11 4)), (1, .ref (ak 1)), (2, .int 18), (3, .int 23), (4, .int d)]) hx hb dX8_isSame_51 hl (k := 0) rfl (by decide) (by decide) rfl (fun ls hl => ?_)
                    refine lv_goto (tgt := 18) hx hb dX8_isSame_54 (by decide) ?_
                    refine lv_iload hx hb dX8_isSame_18 (lv_at hl 0 rfl) ?_
                    refine lv_iload_n hx hb dX8_isSame_20 rfl (lv_at hl 4 rfl) ?_
                    refine lv_iload_n hx hb dX8_isSame_21 rfl (lv_at hl 3 rfl) ?_
                    refine lv_isub hx hb dX8_isSame_22 ?_
                    refine lv_topi (fun v32 ev32 => ?_)
                    obtain rfl : 5 = v32 := (ev32.trans (by decide)).symm
                    refine lv_icmp_ge (tgt := 57) hx hb dX8_isSame_23 (by decide) (fun c33 => ?_) (fun c33 => ?_)
                    · exact absurd c33 (by decide)
                    · skip
                      refine lv_aload_n hx hb dX8_isSame_26 rfl (lv_at hl 2 rfl) ?_
                      refine lv_iload_n hx hb dX8_isSame_27 rfl (lv_at hl 3 rfl) ?_
                      refine lv_iload hx hb dX8_isSame_28 (lv_at hl 0 rfl) ?_
                      refine lv_iadd hx hb dX8_isSame_30 ?_
                      refine lv_topi (fun v34 ev34 => ?_)
                      obtain rfl : 22 = v34 := (ev34.trans (by decide)).symm
                      refine vp_callSi (W.runV (As := [.int 22]) (rest := []) ⟨hx, hb, hml, hown, ht⟩ (c_J0_charAt_5068e_1 l dC dI ak av 22 ⟨by decide, by decide⟩) (kV 1 ht m_715 m_716 m_717 m_91 m_718 rfl rfl hd_J0_charAt_5068e_v ⟨Nat.le_of_ble_eq_true rfl, Nat.le_of_ble_eq_true rfl⟩) (vRZ noP (hK.sub (tys' := []) [] rfl) hZ (vk_recv hZ.1.2.2.2.2.2 (i := 1) (by decide) va_S.rf)) rfl rfl hl.1 rfl (lv_room (Nat.le_of_ble_eq_true rfl)) dX8_isSame_31 ⟨Nat.le_of_ble_eq_true rfl, Nat.le_of_ble_eq_true rfl⟩) (fun r35 hr35 => ?_)
                      obtain rfl : 115 = r35 := (hr35.trans (by decide)).symm
                      refine lv_aload_n hx hb dX8_isSame_34 rfl (lv_at hl 1 rfl) ?_
                      refine gX_8_1 hx hb ht hown hK hP m_229 dX8_isSame_35 ?_
                      refine lv_aload_n hx hb dX8_isSame_38 rfl (lv_at hl 1 rfl) ?_
                      refine gX_8_5 hx hb ht hown hK hP m_235 (v := (iv 8 5)) rfl dX8_isSame_39 ?_
                      refine lv_iload hx hb dX8_isSame_42 (lv_at hl 0 rfl) ?_
                      refine lv_iadd hx hb dX8_isSame_44 ?_
                      refine lv_topi (fun v36 ev36 => ?_)
                      have tv36 := z_add ev36 (rfl : ((iv 8 5)).toInt = _) (by decide : (4 : Int32).toInt = 4) (by omega) (by omega)
                      have : 0 ≤ (v36 : Int32).toInt ∧ (v36 : Int32).toInt ≤ 199 := ⟨by omega, by omega⟩
                      refine lX_8_1 hx hb hK hP (f := (fa 8 1)) rfl (vp_in_iff.mpr ⟨by omega, by omega⟩) dX8_isSame_45 ?_
                      refine lv_topi (fun v37 ev37 => ?_)
                      refine lv_icmp_eq (tgt := 51) hx hb dX8_isSame_46 (by decide) (fun c38 => ?_) (fun c38 => ?_)
                      · have fc38 := z_eq (by decide : (115 : Int32).toInt = 115) (rfl : (v37).toInt = _) c38
                        refine lv_iinc (v := 5) (lv' := [(5, .int 5), (0, .ref (g 11 4)), (1, .ref (ak 1)), (2, .int 18), (3, .int 23), (4, .int d)]) hx hb dX8_isSame_51 hl (k := 0) rfl (by decide) (by decide) rfl (fun ls hl => ?_)
                        refine lv_goto (tgt := 18) hx hb dX8_isSame_54 (by decide) ?_
                        refine lv_iload hx hb dX8_isSame_18 (lv_at hl 0 rfl) ?_
                        refine lv_iload_n hx hb dX8_isSame_20 rfl (lv_at hl 4 rfl) ?_
                        refine lv_iload_n hx hb dX8_isSame_21 rfl (lv_at hl 3 rfl) ?_
                        refine lv_isub hx hb dX8_isSame_22 ?_
                        refine lv_topi (fun v39 ev39 => ?_)
                        obtain rfl : 5 = v39 := (ev39.trans (by decide)).symm
                        refine lv_icmp_ge (tgt := 57) hx hb dX8_isSame_23 (by decide) (fun c40 => ?_) (fun c40 => ?_)
                        · skip
                          refine lv_iconst (v := 1) hx hb dX8_isSame_57 (by decide) ?_
                          have : (1 : Int32).toInt = 1 := (by decide)
                          exact W.zret (v := 1) hx hb hr rfl (fun t ht9 hW => ⟨1, rfl, ⟨⟨by decide, by decide⟩, (show (((1 : Int32).toInt = 1 ∧ w_looks (fun j => ((fa 8 1) j).toInt) ((iv 8 5) : Int32).toInt (d).toInt) ∨ ((1 : Int32).toInt = 0 ∧ ¬ w_looks (fun j => ((fa 8 1) j).toInt) ((iv 8 5) : Int32).toInt (d).toInt)) from (by have q0 := congrArg Int32.toInt (ev9.trans (congrArg (fa 8 1) (show (v8 : Int32).toNatClampNeg = ((iv 8 5).toInt).toNat + 0 from (by show (v8 : Int32).toInt.toNat = _; omega)))); have q1 := congrArg Int32.toInt (ev16.trans (congrArg (fa 8 1) (show (v15 : Int32).toNatClampNeg = ((iv 8 5).toInt).toNat + 1 from (by show (v15 : Int32).toInt.toNat = _; omega)))); have q2 := congrArg Int32.toInt (ev23.trans (congrArg (fa 8 1) (show (v22 : Int32).toNatClampNeg = ((iv 8 5).toInt).toNat + 2 from (by show (v22 : Int32).toInt.toNat = _; omega)))); have q3 := congrArg Int32.toInt (ev30.trans (congrArg (fa 8 1) (show (v29 : Int32).toNatClampNeg = ((iv 8 5).toInt).toNat + 3 from (by show (v29 : Int32).toInt.toNat = _; omega)))); have q4 := congrArg Int32.toInt (ev37.trans (congrArg (fa 8 1) (show (v36 : Int32).toNatClampNeg = ((iv 8 5).toInt).toNat + 4 from (by show (v36 : Int32).toInt.toNat = _; omega)))); exact Or.inl ⟨by omega, (show d.toInt - (iv 8 5).toInt = 5 ∧ (fa 8 1 (((iv 8 5).toInt).toNat + 0)).toInt = 108 ∧ (fa 8 1 (((iv 8 5).toInt).toNat + 1)).toInt = 111 ∧ (fa 8 1 (((iv 8 5).toInt).toNat + 2)).toInt = 111 ∧ (fa 8 1 (((iv 8 5).toInt).toNat + 3)).toInt = 107 ∧ (fa 8 1 (((iv 8 5).toInt).toNat + 4)).toInt = 115 from ⟨by omega, by omega, by omega, by omega, by omega, by omega⟩)⟩))⟩, ht9⟩) (fun q hq => by cases hq) dX8_isSame_58
                        · exact absurd c40 (by decide)
                      · have fc38 := z_ne (by decide : (115 : Int32).toInt = 115) (rfl : (v37).toInt = _) c38
                        refine lv_iconst (v := 0) hx hb dX8_isSame_49 (by decide) ?_
                        have : (0 : Int32).toInt = 0 := (by decide)
                        exact W.zret (v := 0) hx hb hr rfl (fun t ht9 hW => ⟨0, rfl, ⟨⟨by decide, by decide⟩, (show (((0 : Int32).toInt = 1 ∧ w_looks (fun j => ((fa 8 1) j).toInt) ((iv 8 5) : Int32).toInt (d).toInt) ∨ ((0 : Int32).toInt = 0 ∧ ¬ w_looks (fun j => ((fa 8 1) j).toInt) ((iv 8 5) : Int32).toInt (d).toInt)) from (by have q0 := congrArg Int32.toInt (ev9.trans (congrArg (fa 8 1) (show (v8 : Int32).toNatClampNeg = ((iv 8 5).toInt).toNat + 0 from (by show (v8 : Int32).toInt.toNat = _; omega)))); have q1 := congrArg Int32.toInt (ev16.trans (congrArg (fa 8 1) (show (v15 : Int32).toNatClampNeg = ((iv 8 5).toInt).toNat + 1 from (by show (v15 : Int32).toInt.toNat = _; omega)))); have q2 := congrArg Int32.toInt (ev23.trans (congrArg (fa 8 1) (show (v22 : Int32).toNatClampNeg = ((iv 8 5).toInt).toNat + 2 from (by show (v22 : Int32).toInt.toNat = _; omega)))); have q3 := congrArg Int32.toInt (ev30.trans (congrArg (fa 8 1) (show (v29 : Int32).toNatClampNeg = ((iv 8 5).toInt).toNat + 3 from (by show (v29 : Int32).toInt.toNat = _; omega)))); have q4 := congrArg Int32.toInt (ev37.trans (congrArg (fa 8 1) (show (v36 : Int32).toNatClampNeg = ((iv 8 5).toInt).toNat + 4 from (by show (v36 : Int32).toInt.toNat = _; omega)))); exact Or.inr ⟨by omega, fun h9 => (by have h8 : d.toInt - (iv 8 5).toInt = 5 ∧ (fa 8 1 (((iv 8 5).toInt).toNat + 0)).toInt = 108 ∧ (fa 8 1 (((iv 8 5).toInt).toNat + 1)).toInt = 111 ∧ (fa 8 1 (((iv 8 5).toInt).toNat + 2)).toInt = 111 ∧ (fa 8 1 (((iv 8 5).toInt).toNat + 3)).toInt = 107 ∧ (fa 8 1 (((iv 8 5).toInt).toNat + 4)).toInt = 115 := h9; omega)⟩))⟩, ht9⟩) (fun q hq => by cases hq) dX8_isSame_50
                  · have fc31 := z_ne (by decide : (107 : Int32).toInt = 107) (rfl : (v30).toInt = _) c31
                    refine lv_iconst (v := 0) hx hb dX8_isSame_49 (by decide) ?_
                    have : (0 : Int32).toInt = 0 := (by decide)
                    exact W.zret (v := 0) hx hb hr rfl (fun t ht9 hW => ⟨0, rfl, ⟨⟨by decide, by decide⟩, (show (((0 : Int32).toInt = 1 ∧ w_looks (fun j => ((fa 8 1) j).toInt) ((iv 8 5) : Int32).toInt (d).toInt) ∨ ((0 : Int32).toInt = 0 ∧ ¬ w_looks (fun j => ((fa 8 1) j).toInt) ((iv 8 5) : Int32).toInt (d).toInt)) from (by have q0 := congrArg Int32.toInt (ev9.trans (congrArg (fa 8 1) (show (v8 : Int32).toNatClampNeg = ((iv 8 5).toInt).toNat + 0 from (by show (v8 : Int32).toInt.toNat = _; omega)))); have q1 := congrArg Int32.toInt (ev16.trans (congrArg (fa 8 1) (show (v15 : Int32).toNatClampNeg = ((iv 8 5).toInt).toNat + 1 from (by show (v15 : Int32).toInt.toNat = _; omega)))); have q2 := congrArg Int32.toInt (ev23.trans (congrArg (fa 8 1) (show (v22 : Int32).toNatClampNeg = ((iv 8 5).toInt).toNat + 2 from (by show (v22 : Int32).toInt.toNat = _; omega)))); have q3 := congrArg Int32.toInt (ev30.trans (congrArg (fa 8 1) (show (v29 : Int32).toNatClampNeg = ((iv 8 5).toInt).toNat + 3 from (by show (v29 : Int32).toInt.toNat = _; omega)))); exact Or.inr ⟨by omega, fun h9 => (by have h8 : d.toInt - (iv 8 5).toInt = 5 ∧ (fa 8 1 (((iv 8 5).toInt).toNat + 0)).toInt = 108 ∧ (fa 8 1 (((iv 8 5).toInt).toNat + 1)).toInt = 111 ∧ (fa 8 1 (((iv 8 5).toInt).toNat + 2)).toInt = 111 ∧ (fa 8 1 (((iv 8 5).toInt).toNat + 3)).toInt = 107 ∧ (fa 8 1 (((iv 8 5).toInt).toNat + 4)).toInt = 115 := h9; omega)⟩))⟩, ht9⟩) (fun q hq => by cases hq) dX8_isSame_50
              · have fc24 := z_ne (by decide : (111 : Int32).toInt = 111) (rfl : (v23).toInt = _) c24
                refine lv_iconst (v := 0) hx hb dX8_isSame_49 (by decide) ?_
                have : (0 : Int32).toInt = 0 := (by decide)
                exact W.zret (v := 0) hx hb hr rfl (fun t ht9 hW => ⟨0, rfl, ⟨⟨by decide, by decide⟩, (show (((0 : Int32).toInt = 1 ∧ w_looks (fun j => ((fa 8 1) j).toInt) ((iv 8 5) : Int32).toInt (d).toInt) ∨ ((0 : Int32).toInt = 0 ∧ ¬ w_looks (fun j => ((fa 8 1) j).toInt) ((iv 8 5) : Int32).toInt (d).toInt)) from (by have q0 := congrArg Int32.toInt (ev9.trans (congrArg (fa 8 1) (show (v8 : Int32).toNatClampNeg = ((iv 8 5).toInt).toNat + 0 from (by show (v8 : Int32).toInt.toNat = _; omega)))); have q1 := congrArg Int32.toInt (ev16.trans (congrArg (fa 8 1) (show (v15 : Int32).toNatClampNeg = ((iv 8 5).toInt).toNat + 1 from (by show (v15 : Int32).toInt.toNat = _; omega)))); have q2 := congrArg Int32.toInt (ev23.trans (congrArg (fa 8 1) (show (v22 : Int32).toNatClampNeg = ((iv 8 5).toInt).toNat + 2 from (by show (v22 : Int32).toInt.toNat = _; omega)))); exact Or.inr ⟨by omega, fun h9 => (by have h8 : d.toInt - (iv 8 5).toInt = 5 ∧ (fa 8 1 (((iv 8 5).toInt).toNat + 0)).toInt = 108 ∧ (fa 8 1 (((iv 8 5).toInt).toNat + 1)).toInt = 111 ∧ (fa 8 1 (((iv 8 5).toInt).toNat + 2)).toInt = 111 ∧ (fa 8 1 (((iv 8 5).toInt).toNat + 3)).toInt = 107 ∧ (fa 8 1 (((iv 8 5).toInt).toNat + 4)).toInt = 115 := h9; omega)⟩))⟩, ht9⟩) (fun q hq => by cases hq) dX8_isSame_50
          · have fc17 := z_ne (by decide : (111 : Int32).toInt = 111) (rfl : (v16).toInt = _) c17
            refine lv_iconst (v := 0) hx hb dX8_isSame_49 (by decide) ?_
            have : (0 : Int32).toInt = 0 := (by decide)
            exact W.zret (v := 0) hx hb hr rfl (fun t ht9 hW => ⟨0, rfl, ⟨⟨by decide, by decide⟩, (show (((0 : Int32).toInt = 1 ∧ w_looks (fun j => ((fa 8 1) j).toInt) ((iv 8 5) : Int32).toInt (d).toInt) ∨ ((0 : Int32).toInt = 0 ∧ ¬ w_looks (fun j => ((fa 8 1) j).toInt) ((iv 8 5) : Int32).toInt (d).toInt)) from (by have q0 := congrArg Int32.toInt (ev9.trans (congrArg (fa 8 1) (show (v8 : Int32).toNatClampNeg = ((iv 8 5).toInt).toNat + 0 from (by show (v8 : Int32).toInt.toNat = _; omega)))); have q1 := congrArg Int32.toInt (ev16.trans (congrArg (fa 8 1) (show (v15 : Int32).toNatClampNeg = ((iv 8 5).toInt).toNat + 1 from (by show (v15 : Int32).toInt.toNat = _; omega)))); exact Or.inr ⟨by omega, fun h9 => (by have h8 : d.toInt - (iv 8 5).toInt = 5 ∧ (fa 8 1 (((iv 8 5).toInt).toNat + 0)).toInt = 108 ∧ (fa 8 1 (((iv 8 5).toInt).toNat + 1)).toInt = 111 ∧ (fa 8 1 (((iv 8 5).toInt).toNat + 2)).toInt = 111 ∧ (fa 8 1 (((iv 8 5).toInt).toNat + 3)).toInt = 107 ∧ (fa 8 1 (((iv 8 5).toInt).toNat + 4)).toInt = 115 := h9; omega)⟩))⟩, ht9⟩) (fun q hq => by cases hq) dX8_isSame_50
      · have fc10 := z_ne (by decide : (108 : Int32).toInt = 108) (rfl : (v9).toInt = _) c10
        refine lv_iconst (v := 0) hx hb dX8_isSame_49 (by decide) ?_
        have : (0 : Int32).toInt = 0 := (by decide)
        exact W.zret (v := 0) hx hb hr rfl (fun t ht9 hW => ⟨0, rfl, ⟨⟨by decide, by decide⟩, (show (((0 : Int32).toInt = 1 ∧ w_looks (fun j => ((fa 8 1) j).toInt) ((iv 8 5) : Int32).toInt (d).toInt) ∨ ((0 : Int32).toInt = 0 ∧ ¬ w_looks (fun j => ((fa 8 1) j).toInt) ((iv 8 5) : Int32).toInt (d).toInt)) from (by have q0 := congrArg Int32.toInt (ev9.trans (congrArg (fa 8 1) (show (v8 : Int32).toNatClampNeg = ((iv 8 5).toInt).toNat + 0 from (by show (v8 : Int32).toInt.toNat = _; omega)))); exact Or.inr ⟨by omega, fun h9 => (by have h8 : d.toInt - (iv 8 5).toInt = 5 ∧ (fa 8 1 (((iv 8 5).toInt).toNat + 0)).toInt = 108 ∧ (fa 8 1 (((iv 8 5).toInt).toNat + 1)).toInt = 111 ∧ (fa 8 1 (((iv 8 5).toInt).toNat + 2)).toInt = 111 ∧ (fa 8 1 (((iv 8 5).toInt).toNat + 3)).toInt = 107 ∧ (fa 8 1 (((iv 8 5).toInt).toNat + 4)).toInt = 115 := h9; omega)⟩))⟩, ht9⟩) (fun q hq => by cases hq) dX8_isSame_50
  · have fc3 := z_ne (by decide : (5 : Int32).toInt = 5) (rfl : (v2).toInt = _) c3
    refine lv_iconst (v := 0) hx hb dX8_isSame_13 (by decide) ?_
    have : (0 : Int32).toInt = 0 := (by decide)
    exact W.zret (v := 0) hx hb hr rfl (fun t ht9 hW => ⟨0, rfl, ⟨⟨by decide, by decide⟩, (show (((0 : Int32).toInt = 1 ∧ w_looks (fun j => ((fa 8 1) j).toInt) ((iv 8 5) : Int32).toInt (d).toInt) ∨ ((0 : Int32).toInt = 0 ∧ ¬ w_looks (fun j => ((fa 8 1) j).toInt) ((iv 8 5) : Int32).toInt (d).toInt)) from (by exact Or.inr ⟨by omega, fun h9 => (by have h8 : d.toInt - (iv 8 5).toInt = 5 ∧ (fa 8 1 (((iv 8 5).toInt).toNat + 0)).toInt = 108 ∧ (fa 8 1 (((iv 8 5).toInt).toNat + 1)).toInt = 111 ∧ (fa 8 1 (((iv 8 5).toInt).toNat + 2)).toInt = 111 ∧ (fa 8 1 (((iv 8 5).toInt).toNat + 3)).toInt = 107 ∧ (fa 8 1 (((iv 8 5).toInt).toNat + 4)).toInt = 115 := h9; omega)⟩))⟩, ht9⟩) (fun q hq => by cases hq) dX8_isSame_14
set_option maxHeartbeats 4000000 in
set_option maxRecDepth 100000 in
/-- X8_isSame -/
theorem c_X8_isSame_r1_24 (l : Launch) (dC : Nat → ClassId) (dI : Nat → Nat → Nat) (ak av : Nat → Nat) (h : Nat) (g : Nat → Nat → Nat) (ca : Nat → Nat → ClassId) (iv : Nat → Nat → Int32) (lv : Nat → Nat → Int64) (fa : Nat → Nat → Nat → Int32) (la : Nat → Nat → Nat → Int64) (hI : IX iv fa) (d : Int32) (h_d : 0 ≤ d.toInt ∧ d.toInt ≤ 200) : Met l yX8_isSame (wc yX8_isSame cX8_isSame 6 (some .boolean)) ({ frames := 4, cells := 0, slots := 0, locals := 85 } : Room) (pRZ ak av (dC, dI) classes (WX h g ca iv lv fa la) (TX ca) [.ref (g 11 4), .ref (ak 1), .int 24, .int 27, .int d]) (vp_Si (fun r => (0 ≤ r.toInt ∧ r.toInt ≤ 1) ∧ (((r.toInt = 1 ∧ w_fee (fun j => ((fa 8 1) j).toInt) (iv 8 5).toInt d.toInt) ∨ (r.toInt = 0 ∧ ¬ w_fee (fun j => ((fa 8 1) j).toInt) (iv 8 5).toInt d.toInt))))) 0 0 (fun _ => False) := by
  refine Met.ofW (cc := cX8_isSame) (maxL := 6) (ret := (some .boolean)) (by decide) rfl ?_
  intro p e s m args below meth c s₁ B hml hv
  obtain ⟨rfl, hP, hK, hZ⟩ := hv
  have hx := B.exec
  have hb := B.bytes
  have hr := B.returns
  have ht := tb_tl (atoms_spec (ws := wc yX8_isSame cX8_isSame 6 (some .boolean)) B.pre)
  have hown : s.vm.findClass RX8 = some m.cls := findClass_of_methodNamed B.named
  have hlocks := B.notSynchronized
  have hl := lv_entry [.ref (g 11 4), .ref (ak 1), .int 24, .int 27, .int d] (n := 6) (Nat.le_of_ble_eq_true rfl)
  rw [lg_entry_eq]
  generalize (lg_sl [.ref (g 11 4), .ref (ak 1), .int 24, .int 27, .int d] ++ List.replicate (6 - (lg_sl [.ref (g 11 4), .ref (ak 1), .int 24, .int 27, .int d]).length) Slot.unset).toArray = ls at hl ⊢
  have hl : lv_has ls 6 [(0, .ref (g 11 4)), (1, .ref (ak 1)), (2, .int 24), (3, .int 27), (4, .int d)] := hl
  refine lv_iload_n hx hb dX8_isSame_0 rfl (lv_at hl 3 rfl) ?_
  refine lv_iload_n hx hb dX8_isSame_1 rfl (lv_at hl 2 rfl) ?_
  refine lv_isub hx hb dX8_isSame_2 ?_
  refine lv_topi (fun v1 ev1 => ?_)
  obtain rfl : 3 = v1 := (ev1.trans (by decide)).symm
  refine lv_iload hx hb dX8_isSame_3 (lv_at hl 4 rfl) ?_
  refine lv_aload_n hx hb dX8_isSame_5 rfl (lv_at hl 0 rfl) ?_
  have i_8_5 : 0 ≤ (iv 8 5).toInt ∧ (iv 8 5).toInt ≤ 200 := hI.1 8 5
  refine gX_8_5 hx hb ht hown hK hP m_235 (v := (iv 8 5)) rfl dX8_isSame_6 ?_
  refine lv_isub hx hb dX8_isSame_9 ?_
  refine lv_topi (fun v2 ev2 => ?_)
  have tv2 := z_sub ev2 (rfl : (d).toInt = _) (rfl : ((iv 8 5)).toInt = _) (by omega) (by omega)
  refine lv_icmp_eq (tgt := 15) hx hb dX8_isSame_10 (by decide) (fun c3 => ?_) (fun c3 => ?_)
  · have fc3 := z_eq (by decide : (3 : Int32).toInt = 3) (rfl : (v2).toInt = _) c3
    refine lv_iconst (v := 0) hx hb dX8_isSame_15 (by decide) ?_
    refine lv_istore (lv' := [(5, .int 0), (0, .ref (g 11 4)), (1, .ref (ak 1)), (2, .int 24), (3, .int 27), (4, .int d)]) hx hb dX8_isSame_16 hl (by decide) rfl (fun ls hl => ?_)
    refine lv_iload hx hb dX8_isSame_18 (lv_at hl 0 rfl) ?_
    refine lv_iload_n hx hb dX8_isSame_20 rfl (lv_at hl 4 rfl) ?_
    refine lv_iload_n hx hb dX8_isSame_21 rfl (lv_at hl 3 rfl) ?_
    refine lv_isub hx hb dX8_isSame_22 ?_
    refine lv_topi (fun v4 ev4 => ?_)
    obtain rfl : 3 = v4 := (ev4.trans (by decide)).symm
    refine lv_icmp_ge (tgt := 57) hx hb dX8_isSame_23 (by decide) (fun c5 => ?_) (fun c5 => ?_)
    · exact absurd c5 (by decide)
    · skip
      refine lv_aload_n hx hb dX8_isSame_26 rfl (lv_at hl 2 rfl) ?_
      refine lv_iload_n hx hb dX8_isSame_27 rfl (lv_at hl 3 rfl) ?_
      refine lv_iload hx hb dX8_isSame_28 (lv_at hl 0 rfl) ?_
      refine lv_iadd hx hb dX8_isSame_30 ?_
      refine lv_topi (fun v6 ev6 => ?_)
      obtain rfl : 24 = v6 := (ev6.trans (by decide)).symm
      refine vp_callSi (W.runV (As := [.int 24]) (rest := []) ⟨hx, hb, hml, hown, ht⟩ (c_J0_charAt_5068e_1 l dC dI ak av 24 ⟨by decide, by decide⟩) (kV 1 ht m_715 m_716 m_717 m_91 m_718 rfl rfl hd_J0_charAt_5068e_v ⟨Nat.le_of_ble_eq_true rfl, Nat.le_of_ble_eq_true rfl⟩) (vRZ noP (hK.sub (tys' := []) [] rfl) hZ (vk_recv hZ.1.2.2.2.2.2 (i := 1) (by decide) va_S.rf)) rfl rfl hl.1 rfl (lv_room (Nat.le_of_ble_eq_true rfl)) dX8_isSame_31 ⟨Nat.le_of_ble_eq_true rfl, Nat.le_of_ble_eq_true rfl⟩) (fun r7 hr7 => ?_)
      obtain rfl : 102 = r7 := (hr7.trans (by decide)).symm
      refine lv_aload_n hx hb dX8_isSame_34 rfl (lv_at hl 1 rfl) ?_
      refine gX_8_1 hx hb ht hown hK hP m_229 dX8_isSame_35 ?_
      refine lv_aload_n hx hb dX8_isSame_38 rfl (lv_at hl 1 rfl) ?_
      refine gX_8_5 hx hb ht hown hK hP m_235 (v := (iv 8 5)) rfl dX8_isSame_39 ?_
      refine lv_iload hx hb dX8_isSame_42 (lv_at hl 0 rfl) ?_
      refine lv_iadd hx hb dX8_isSame_44 ?_
      refine lv_topi (fun v8 ev8 => ?_)
      have tv8 := z_add ev8 (rfl : ((iv 8 5)).toInt = _) (by decide : (0 : Int32).toInt = 0) (by omega) (by omega)
      have : 0 ≤ (v8 : Int32).toInt ∧ (v8 : Int32).toInt ≤ 199 := ⟨by omega, by omega⟩
      refine lX_8_1 hx hb hK hP (f := (fa 8 1)) rfl (vp_in_iff.mpr ⟨by omega, by omega⟩) dX8_isSame_45 ?_
      refine lv_topi (fun v9 ev9 => ?_)
      refine lv_icmp_eq (tgt := 51) hx hb dX8_isSame_46 (by decide) (fun c10 => ?_) (fun c10 => ?_)
      · have fc10 := z_eq (by decide : (102 : Int32).toInt = 102) (rfl : (v9).toInt = _) c10
        refine lv_iinc (v := 1) (lv' := [(5, .int 1), (0, .ref (g 11 4)), (1, .ref (ak 1)), (2, .int 24), (3, .int 27), (4, .int d)]) hx hb dX8_isSame_51 hl (k := 0) rfl (by decide) (by decide) rfl (fun ls hl => ?_)
        refine lv_goto (tgt := 18) hx hb dX8_isSame_54 (by decide) ?_
        refine lv_iload hx hb dX8_isSame_18 (lv_at hl 0 rfl) ?_
        refine lv_iload_n hx hb dX8_isSame_20 rfl (lv_at hl 4 rfl) ?_
        refine lv_iload_n hx hb dX8_isSame_21 rfl (lv_at hl 3 rfl) ?_
        refine lv_isub hx hb dX8_isSame_22 ?_
        refine lv_topi (fun v11 ev11 => ?_)
        obtain rfl : 3 = v11 := (ev11.trans (by decide)).symm
        refine lv_icmp_ge (tgt := 57) hx hb dX8_isSame_23 (by decide) (fun c12 => ?_) (fun c12 => ?_)
        · exact absurd c12 (by decide)
        · skip
          refine lv_aload_n hx hb dX8_isSame_26 rfl (lv_at hl 2 rfl) ?_
          refine lv_iload_n hx hb dX8_isSame_27 rfl (lv_at hl 3 rfl) ?_
          refine lv_iload hx hb dX8_isSame_28 (lv_at hl 0 rfl) ?_
          refine lv_iadd hx hb dX8_isSame_30 ?_
          refine lv_topi (fun v13 ev13 => ?_)
          obtain rfl : 25 = v13 := (ev13.trans (by decide)).symm
          refine vp_callSi (W.runV (As := [.int 25]) (rest := []) ⟨hx, hb, hml, hown, ht⟩ (c_J0_charAt_5068e_1 l dC dI ak av 25 ⟨by decide, by decide⟩) (kV 1 ht m_715 m_716 m_717 m_91 m_718 rfl rfl hd_J0_charAt_5068e_v ⟨Nat.le_of_ble_eq_true rfl, Nat.le_of_ble_eq_true rfl⟩) (vRZ noP (hK.sub (tys' := []) [] rfl) hZ (vk_recv hZ.1.2.2.2.2.2 (i := 1) (by decide) va_S.rf)) rfl rfl hl.1 rfl (lv_room (Nat.le_of_ble_eq_true rfl)) dX8_isSame_31 ⟨Nat.le_of_ble_eq_true rfl, Nat.le_of_ble_eq_true rfl⟩) (fun r14 hr14 => ?_)
          obtain rfl : 101 = r14 := (hr14.trans (by decide)).symm
          refine lv_aload_n hx hb dX8_isSame_34 rfl (lv_at hl 1 rfl) ?_
          refine gX_8_1 hx hb ht hown hK hP m_229 dX8_isSame_35 ?_
          refine lv_aload_n hx hb dX8_isSame_38 rfl (lv_at hl 1 rfl) ?_
          refine gX_8_5 hx hb ht hown hK hP m_235 (v := (iv 8 5)) rfl dX8_isSame_39 ?_
          refine lv_iload hx hb dX8_isSame_42 (lv_at hl 0 rfl) ?_
          refine lv_iadd hx hb dX8_isSame_44 ?_
          refine lv_topi (fun v15 ev15 => ?_)
          have tv15 := z_add ev15 (rfl : ((iv 8 5)).toInt = _) (by decide : (1 : Int32).toInt = 1) (by omega) (by omega)
          have : 0 ≤ (v15 : Int32).toInt ∧ (v15 : Int32).toInt ≤ 199 := ⟨by omega, by omega⟩
          refine lX_8_1 hx hb hK hP (f := (fa 8 1)) rfl (vp_in_iff.mpr ⟨by omega, by omega⟩) dX8_isSame_45 ?_
          refine lv_topi (fun v16 ev16 => ?_)
          refine lv_icmp_eq (tgt := 51) hx hb dX8_isSame_46 (by decide) (fun c17 => ?_) (fun c17 => ?_)
          · have fc17 := z_eq (by decide : (101 : Int32).toInt = 101) (rfl : (v16).toInt = _) c17
            refine lv_iinc (v := 2) (lv' := [(5, .int 2), (0, .ref (g 11 4)), (1, .ref (ak 1)), (2, .int 24), (3, .int 27), (4, .int d)]) hx hb dX8_isSame_51 hl (k := 0) rfl (by decide) (by decide) rfl (fun ls hl => ?_)
            refine lv_goto (tgt := 18) hx hb dX8_isSame_54 (by decide) ?_
            refine lv_iload hx hb dX8_isSame_18 (lv_at hl 0 rfl) ?_
            refine lv_iload_n hx hb dX8_isSame_20 rfl (lv_at hl 4 rfl) ?_
            refine lv_iload_n hx hb dX8_isSame_21 rfl (lv_at hl 3 rfl) ?_
            refine lv_isub hx hb dX8_isSame_22 ?_
            refine lv_topi (fun v18 ev18 => ?_)
            obtain rfl : 3 = v18 := (ev18.trans (by decide)).symm
            refine lv_icmp_ge (tgt := 57) hx hb dX8_isSame_23 (by decide) (fun c19 => ?_) (fun c19 => ?_)
            · exact absurd c19 (by decide)
            · skip
              refine lv_aload_n hx hb dX8_isSame_26 rfl (lv_at hl 2 rfl) ?_
              refine lv_iload_n hx hb dX8_isSame_27 rfl (lv_at hl 3 rfl) ?_
              refine lv_iload hx hb dX8_isSame_28 (lv_at hl 0 rfl) ?_
              refine lv_iadd hx hb dX8_isSame_30 ?_
              refine lv_topi (fun v20 ev20 => ?_)
              obtain rfl : 26 = v20 := (ev20.trans (by decide)).symm
              refine vp_callSi (W.runV (As := [.int 26]) (rest := []) ⟨hx, hb, hml, hown, ht⟩ (c_J0_charAt_5068e_1 l dC dI ak av 26 ⟨by decide, by decide⟩) (kV 1 ht m_715 m_716 m_717 m_91 m_718 rfl rfl hd_J0_charAt_5068e_v ⟨Nat.le_of_ble_eq_true rfl, Nat.le_of_ble_eq_true rfl⟩) (vRZ noP (hK.sub (tys' := []) [] rfl) hZ (vk_recv hZ.1.2.2.2.2.2 (i := 1) (by decide) va_S.rf)) rfl rfl hl.1 rfl (lv_room (Nat.le_of_ble_eq_true rfl)) dX8_isSame_31 ⟨Nat.le_of_ble_eq_true rfl, Nat.le_of_ble_eq_true rfl⟩) (fun r21 hr21 => ?_)
              obtain rfl : 101 = r21 := (hr21.trans (by decide)).symm
              refine lv_aload_n hx hb dX8_isSame_34 rfl (lv_at hl 1 rfl) ?_
              refine gX_8_1 hx hb ht hown hK hP m_229 dX8_isSame_35 ?_
              refine lv_aload_n hx hb dX8_isSame_38 rfl (lv_at hl 1 rfl) ?_
              refine gX_8_5 hx hb ht hown hK hP m_235 (v := (iv 8 5)) rfl dX8_isSame_39 ?_
              refine lv_iload hx hb dX8_isSame_42 (lv_at hl 0 rfl) ?_
              refine lv_iadd hx hb dX8_isSame_44 ?_
              refine lv_topi (fun v22 ev22 => ?_)
              have tv22 := z_add ev22 (rfl : ((iv 8 5)).toInt = _) (by decide : (2 : Int32).toInt = 2) (by omega) (by omega)
              have : 0 ≤ (v22 : Int32).toInt ∧ (v22 : Int32).toInt ≤ 199 := ⟨by omega, by omega⟩
              refine lX_8_1 hx hb hK hP (f := (fa 8 1)) rfl (vp_in_iff.mpr ⟨by omega, by omega⟩) dX8_isSame_45 ?_
              refine lv_topi (fun v23 ev23 => ?_)
              refine lv_icmp_eq (tgt := 51) hx hb dX8_isSame_46 (by decide) (fun c24 => ?_) (fun c24 => ?_)
              · have fc24 := z_eq (by decide : (101 : Int32).toInt = 101) (rfl : (v23).toInt = _) c24
                refine lv_iinc (v := 3) (lv' := [(5, .int 3), (0, .ref (g 11 4)), (1, .ref (ak 1)), (2, .int 24), (3, .int 27), (4, .int d)]) hx hb dX8_isSame_51 hl (k := 0) rfl (by decide) (by decide) rfl (fun ls hl => ?_)
                refine lv_goto (tgt := 18) hx hb dX8_isSame_54 (by decide) ?_
                refine lv_iload hx hb dX8_isSame_18 (lv_at hl 0 rfl) ?_
                refine lv_iload_n hx hb dX8_isSame_20 rfl (lv_at hl 4 rfl) ?_
                refine lv_iload_n hx hb dX8_isSame_21 rfl (lv_at hl 3 rfl) ?_
                refine lv_isub hx hb dX8_isSame_22 ?_
                refine lv_topi (fun v25 ev25 => ?_)
                obtain rfl : 3 = v25 := (ev25.trans (by decide)).symm
                refine lv_icmp_ge (tgt := 57) hx hb dX8_isSame_23 (by decide) (fun c26 => ?_) (fun c26 => ?_)
                · skip
                  refine lv_iconst (v := 1) hx hb dX8_isSame_57 (by decide) ?_
                  have : (1 : Int32).toInt = 1 := (by decide)
                  exact W.zret (v := 1) hx hb hr rfl (fun t ht9 hW => ⟨1, rfl, ⟨⟨by decide, by decide⟩, (show (((1 : Int32).toInt = 1 ∧ w_fee (fun j => ((fa 8 1) j).toInt) ((iv 8 5) : Int32).toInt (d).toInt) ∨ ((1 : Int32).toInt = 0 ∧ ¬ w_fee (fun j => ((fa 8 1) j).toInt) ((iv 8 5) : Int32).toInt (d).toInt)) from (by have q0 := congrArg Int32.toInt (ev9.trans (congrArg (fa 8 1) (show (v8 : Int32).toNatClampNeg = ((iv 8 5).toInt).toNat + 0 from (by show (v8 : Int32).toInt.toNat = _; omega)))); have q1 := congrArg Int32.toInt (ev16.trans (congrArg (fa 8 1) (show (v15 : Int32).toNatClampNeg = ((iv 8 5).toInt).toNat + 1 from (by show (v15 : Int32).toInt.toNat = _; omega)))); have q2 := congrArg Int32.toInt (ev23.trans (congrArg (fa 8 1) (show (v22 : Int32).toNatClampNeg = ((iv 8 5).toInt).toNat + 2 from (by show (v22 : Int32).toInt.toNat = _; omega)))); exact Or.inl ⟨by omega, (show d.toInt - (iv 8 5).toInt = 3 ∧ (fa 8 1 (((iv 8 5).toInt).toNat + 0)).toInt = 102 ∧ (fa 8 1 (((iv 8 5).toInt).toNat + 1)).toInt = 101 ∧ (fa 8 1 (((iv 8 5).toInt).toNat + 2)).toInt = 101 from ⟨by omega, by omega, by omega, by omega⟩)⟩))⟩, ht9⟩) (fun q hq => by cases hq) dX8_isSame_58
                · exact absurd c26 (by decide)
              · have fc24 := z_ne (by decide : (101 : Int32).toInt = 101) (rfl : (v23).toInt = _) c24
                refine lv_iconst (v := 0) hx hb dX8_isSame_49 (by decide) ?_
                have : (0 : Int32).toInt = 0 := (by decide)
                exact W.zret (v := 0) hx hb hr rfl (fun t ht9 hW => ⟨0, rfl, ⟨⟨by decide, by decide⟩, (show (((0 : Int32).toInt = 1 ∧ w_fee (fun j => ((fa 8 1) j).toInt) ((iv 8 5) : Int32).toInt (d).toInt) ∨ ((0 : Int32).toInt = 0 ∧ ¬ w_fee (fun j => ((fa 8 1) j).toInt) ((iv 8 5) : Int32).toInt (d).toInt)) from (by have q0 := congrArg Int32.toInt (ev9.trans (congrArg (fa 8 1) (show (v8 : Int32).toNatClampNeg = ((iv 8 5).toInt).toNat + 0 from (by show (v8 : Int32).toInt.toNat = _; omega)))); have q1 := congrArg Int32.toInt (ev16.trans (congrArg (fa 8 1) (show (v15 : Int32).toNatClampNeg = ((iv 8 5).toInt).toNat + 1 from (by show (v15 : Int32).toInt.toNat = _; omega)))); have q2 := congrArg Int32.toInt (ev23.trans (congrArg (fa 8 1) (show (v22 : Int32).toNatClampNeg = ((iv 8 5).toInt).toNat + 2 from (by show (v22 : Int32).toInt.toNat = _; omega)))); exact Or.inr ⟨by omega, fun h9 => (by have h8 : d.toInt - (iv 8 5).toInt = 3 ∧ (fa 8 1 (((iv 8 5).toInt).toNat + 0)).toInt = 102 ∧ (fa 8 1 (((iv 8 5).toInt).toNat + 1)).toInt = 101 ∧ (fa 8 1 (((iv 8 5).toInt).toNat + 2)).toInt = 101 := h9; omega)⟩))⟩, ht9⟩) (fun q hq => by cases hq) dX8_isSame_50
          · have fc17 := z_ne (by decide : (101 : Int32).toInt = 101) (rfl : (v16).toInt = _) c17
            refine lv_iconst (v := 0) hx hb dX8_isSame_49 (by decide) ?_
            have : (0 : Int32).toInt = 0 := (by decide)
            exact W.zret (v := 0) hx hb hr rfl (fun t ht9 hW => ⟨0, rfl, ⟨⟨by decide, by decide⟩, (show (((0 : Int32).toInt = 1 ∧ w_fee (fun j => ((fa 8 1) j).toInt) ((iv 8 5) : Int32).toInt (d).toInt) ∨ ((0 : Int32).toInt = 0 ∧ ¬ w_fee (fun j => ((fa 8 1) j).toInt) ((iv 8 5) : Int32).toInt (d).toInt)) from (by have q0 := congrArg Int32.toInt (ev9.trans (congrArg (fa 8 1) (show (v8 : Int32).toNatClampNeg = ((iv 8 5).toInt).toNat + 0 from (by show (v8 : Int32).toInt.toNat = _; omega)))); have q1 := congrArg Int32.toInt (ev16.trans (congrArg (fa 8 1) (show (v15 : Int32).toNatClampNeg = ((iv 8 5).toInt).toNat + 1 from (by show (v15 : Int32).toInt.toNat = _; omega)))); exact Or.inr ⟨by omega, fun h9 => (by have h8 : d.toInt - (iv 8 5).toInt = 3 ∧ (fa 8 1 (((iv 8 5).toInt).toNat + 0)).toInt = 102 ∧ (fa 8 1 (((iv 8 5).toInt).toNat + 1)).toInt = 101 ∧ (fa 8 1 (((iv 8 5).toInt).toNat + 2)).toInt = 101 := h9; omega)⟩))⟩, ht9⟩) (fun q hq => by cases hq) dX8_isSame_50
      · have fc10 := z_ne (by decide : (102 : Int32).toInt = 102) (rfl : (v9).toInt = _) c10
        refine lv_iconst (v := 0) hx hb dX8_isSame_49 (by decide) ?_
        have : (0 : Int32).toInt = 0 := (by decide)
        exact W.zret (v := 0) hx hb hr rfl (fun t ht9 hW => ⟨0, rfl, ⟨⟨by decide, by decide⟩, (show (((0 : Int32).toInt = 1 ∧ w_fee (fun j => ((fa 8 1) j).toInt) ((iv 8 5) : Int32).toInt (d).toInt) ∨ ((0 : Int32).toInt = 0 ∧ ¬ w_fee (fun j => ((fa 8 1) j).toInt) ((iv 8 5) : Int32).toInt (d).toInt)) from (by have q0 := congrArg Int32.toInt (ev9.trans (congrArg (fa 8 1) (show (v8 : Int32).toNatClampNeg = ((iv 8 5).toInt).toNat + 0 from (by show (v8 : Int32).toInt.toNat = _; omega)))); exact Or.inr ⟨by omega, fun h9 => (by have h8 : d.toInt - (iv 8 5).toInt = 3 ∧ (fa 8 1 (((iv 8 5).toInt).toNat + 0)).toInt = 102 ∧ (fa 8 1 (((iv 8 5).toInt).toNat + 1)).toInt = 101 ∧ (fa 8 1 (((iv 8 5).toInt).toNat + 2)).toInt = 101 := h9; omega)⟩))⟩, ht9⟩) (fun q hq => by cases hq) dX8_isSame_50
  · have fc3 := z_ne (by decide : (3 : Int32).toInt = 3) (rfl : (v2).toInt = _) c3
    refine lv_iconst (v := 0) hx hb dX8_isSame_13 (by decide) ?_
    have : (0 : Int32).toInt = 0 := (by decide)
    exact W.zret (v := 0) hx hb hr rfl (fun t ht9 hW => ⟨0, rfl, ⟨⟨by decide, by decide⟩, (show (((0 : Int32).toInt = 1 ∧ w_fee (fun j => ((fa 8 1) j).toInt) ((iv 8 5) : Int32).toInt (d).toInt) ∨ ((0 : Int32).toInt = 0 ∧ ¬ w_fee (fun j => ((fa 8 1) j).toInt) ((iv 8 5) : Int32).toInt (d).toInt)) from (by exact Or.inr ⟨by omega, fun h9 => (by have h8 : d.toInt - (iv 8 5).toInt = 3 ∧ (fa 8 1 (((iv 8 5).toInt).toNat + 0)).toInt = 102 ∧ (fa 8 1 (((iv 8 5).toInt).toNat + 1)).toInt = 101 ∧ (fa 8 1 (((iv 8 5).toInt).toNat + 2)).toInt = 101 := h9; omega)⟩))⟩, ht9⟩) (fun q hq => by cases hq) dX8_isSame_14
set_option maxHeartbeats 4000000 in
set_option maxRecDepth 100000 in
/-- X8_isSame -/
theorem c_X8_isSame_r2_0 (l : Launch) (dC : Nat → ClassId) (dI : Nat → Nat → Nat) (ak av : Nat → Nat) (h : Nat) (g : Nat → Nat → Nat) (ca : Nat → Nat → ClassId) (iv : Nat → Nat → Int32) (lv : Nat → Nat → Int64) (fa : Nat → Nat → Nat → Int32) (la : Nat → Nat → Nat → Int64) (hI : IX iv fa) (d : Int32) (h_d : 0 ≤ d.toInt ∧ d.toInt ≤ 200) : Met l yX8_isSame (wc yX8_isSame cX8_isSame 6 (some .boolean)) ({ frames := 4, cells := 0, slots := 0, locals := 85 } : Room) (pRZ ak av (dC, dI) classes (WX h g ca iv lv fa la) (TX ca) [.ref (g 11 4), .ref (ak 2), .int 0, .int 4, .int d]) (vp_Si (fun r => (0 ≤ r.toInt ∧ r.toInt ≤ 1) ∧ (((r.toInt = 1 ∧ w_mean (fun j => ((fa 8 1) j).toInt) (iv 8 5).toInt d.toInt) ∨ (r.toInt = 0 ∧ ¬ w_mean (fun j => ((fa 8 1) j).toInt) (iv 8 5).toInt d.toInt))))) 0 0 (fun _ => False) := by
  refine Met.ofW (cc := cX8_isSame) (maxL := 6) (ret := (some .boolean)) (by decide) rfl ?_
  intro p e s m args below meth c s₁ B hml hv
  obtain ⟨rfl, hP, hK, hZ⟩ := hv
  have hx := B.exec
  have hb := B.bytes
  have hr := B.returns
  have ht := tb_tl (atoms_spec (ws := wc yX8_isSame cX8_isSame 6 (some .boolean)) B.pre)
  have hown : s.vm.findClass RX8 = some m.cls := findClass_of_methodNamed B.named
  have hlocks := B.notSynchronized
  have hl := lv_entry [.ref (g 11 4), .ref (ak 2), .int 0, .int 4, .int d] (n := 6) (Nat.le_of_ble_eq_true rfl)
  rw [lg_entry_eq]
  generalize (lg_sl [.ref (g 11 4), .ref (ak 2), .int 0, .int 4, .int d] ++ List.replicate (6 - (lg_sl [.ref (g 11 4), .ref (ak 2), .int 0, .int 4, .int d]).length) Slot.unset).toArray = ls at hl ⊢
  have hl : lv_has ls 6 [(0, .ref (g 11 4)), (1, .ref (ak 2)), (2, .int 0), (3, .int 4), (4, .int d)] := hl
  refine lv_iload_n hx hb dX8_isSame_0 rfl (lv_at hl 3 rfl) ?_
  refine lv_iload_n hx hb dX8_isSame_1 rfl (lv_at hl 2 rfl) ?_
  refine lv_isub hx hb dX8_isSame_2 ?_
  refine lv_topi (fun v1 ev1 => ?_)
  obtain rfl : 4 = v1 := (ev1.trans (by decide)).symm
  refine lv_iload hx hb dX8_isSame_3 (lv_at hl 4 rfl) ?_
  refine lv_aload_n hx hb dX8_isSame_5 rfl (lv_at hl 0 rfl) ?_
  have i_8_5 : 0 ≤ (iv 8 5).toInt ∧ (iv 8 5).toInt ≤ 200 := hI.1 8 5
  refine gX_8_5 hx hb ht hown hK hP m_235 (v := (iv 8 5)) rfl dX8_isSame_6 ?_
  refine lv_isub hx hb dX8_isSame_9 ?_
  refine lv_topi (fun v2 ev2 => ?_)
  have tv2 := z_sub ev2 (rfl : (d).toInt = _) (rfl : ((iv 8 5)).toInt = _) (by omega) (by omega)
  refine lv_icmp_eq (tgt := 15) hx hb dX8_isSame_10 (by decide) (fun c3 => ?_) (fun c3 => ?_)
  · have fc3 := z_eq (by decide : (4 : Int32).toInt = 4) (rfl : (v2).toInt = _) c3
    refine lv_iconst (v := 0) hx hb dX8_isSame_15 (by decide) ?_
    refine lv_istore (lv' := [(5, .int 0), (0, .ref (g 11 4)), (1, .ref (ak 2)), (2, .int 0), (3, .int 4), (4, .int d)]) hx hb dX8_isSame_16 hl (by decide) rfl (fun ls hl => ?_)
    refine lv_iload hx hb dX8_isSame_18 (lv_at hl 0 rfl) ?_
    refine lv_iload_n hx hb dX8_isSame_20 rfl (lv_at hl 4 rfl) ?_
    refine lv_iload_n hx hb dX8_isSame_21 rfl (lv_at hl 3 rfl) ?_
    refine lv_isub hx hb dX8_isSame_22 ?_
    refine lv_topi (fun v4 ev4 => ?_)
    obtain rfl : 4 = v4 := (ev4.trans (by decide)).symm
    refine lv_icmp_ge (tgt := 57) hx hb dX8_isSame_23 (by decide) (fun c5 => ?_) (fun c5 => ?_)
    · exact absurd c5 (by decide)
    · skip
      refine lv_aload_n hx hb dX8_isSame_26 rfl (lv_at hl 2 rfl) ?_
      refine lv_iload_n hx hb dX8_isSame_27 rfl (lv_at hl 3 rfl) ?_
      refine lv_iload hx hb dX8_isSame_28 (lv_at hl 0 rfl) ?_
      refine lv_iadd hx hb dX8_isSame_30 ?_
      refine lv_topi (fun v6 ev6 => ?_)
      obtain rfl : 0 = v6 := (ev6.trans (by decide)).symm
      refine vp_callSi (W.runV (As := [.int 0]) (rest := []) ⟨hx, hb, hml, hown, ht⟩ (c_J0_charAt_5068e_2 l dC dI ak av 0 ⟨by decide, by decide⟩) (kV 1 ht m_715 m_716 m_717 m_91 m_718 rfl rfl hd_J0_charAt_5068e_v ⟨Nat.le_of_ble_eq_true rfl, Nat.le_of_ble_eq_true rfl⟩) (vRZ noP (hK.sub (tys' := []) [] rfl) hZ (vk_recv hZ.1.2.2.2.2.2 (i := 2) (by decide) va_S.rf)) rfl rfl hl.1 rfl (lv_room (Nat.le_of_ble_eq_true rfl)) dX8_isSame_31 ⟨Nat.le_of_ble_eq_true rfl, Nat.le_of_ble_eq_true rfl⟩) (fun r7 hr7 => ?_)
      obtain rfl : 109 = r7 := (hr7.trans (by decide)).symm
      refine lv_aload_n hx hb dX8_isSame_34 rfl (lv_at hl 1 rfl) ?_
      refine gX_8_1 hx hb ht hown hK hP m_229 dX8_isSame_35 ?_
      refine lv_aload_n hx hb dX8_isSame_38 rfl (lv_at hl 1 rfl) ?_
      refine gX_8_5 hx hb ht hown hK hP m_235 (v := (iv 8 5)) rfl dX8_isSame_39 ?_
      refine lv_iload hx hb dX8_isSame_42 (lv_at hl 0 rfl) ?_
      refine lv_iadd hx hb dX8_isSame_44 ?_
      refine lv_topi (fun v8 ev8 => ?_)
      have tv8 := z_add ev8 (rfl : ((iv 8 5)).toInt = _) (by decide : (0 : Int32).toInt = 0) (by omega) (by omega)
      have : 0 ≤ (v8 : Int32).toInt ∧ (v8 : Int32).toInt ≤ 199 := ⟨by omega, by omega⟩
      refine lX_8_1 hx hb hK hP (f := (fa 8 1)) rfl (vp_in_iff.mpr ⟨by omega, by omega⟩) dX8_isSame_45 ?_
      refine lv_topi (fun v9 ev9 => ?_)
      refine lv_icmp_eq (tgt := 51) hx hb dX8_isSame_46 (by decide) (fun c10 => ?_) (fun c10 => ?_)
      · have fc10 := z_eq (by decide : (109 : Int32).toInt = 109) (rfl : (v9).toInt = _) c10
        refine lv_iinc (v := 1) (lv' := [(5, .int 1), (0, .ref (g 11 4)), (1, .ref (ak 2)), (2, .int 0), (3, .int 4), (4, .int d)]) hx hb dX8_isSame_51 hl (k := 0) rfl (by decide) (by decide) rfl (fun ls hl => ?_)
        refine lv_goto (tgt := 18) hx hb dX8_isSame_54 (by decide) ?_
        refine lv_iload hx hb dX8_isSame_18 (lv_at hl 0 rfl) ?_
        refine lv_iload_n hx hb dX8_isSame_20 rfl (lv_at hl 4 rfl) ?_
        refine lv_iload_n hx hb dX8_isSame_21 rfl (lv_at hl 3 rfl) ?_
        refine lv_isub hx hb dX8_isSame_22 ?_
        refine lv_topi (fun v11 ev11 => ?_)
        obtain rfl : 4 = v11 := (ev11.trans (by decide)).symm
        refine lv_icmp_ge (tgt := 57) hx hb dX8_isSame_23 (by decide) (fun c12 => ?_) (fun c12 => ?_)
        · exact absurd c12 (by decide)
        · skip
          refine lv_aload_n hx hb dX8_isSame_26 rfl (lv_at hl 2 rfl) ?_
          refine lv_iload_n hx hb dX8_isSame_27 rfl (lv_at hl 3 rfl) ?_
          refine lv_iload hx hb dX8_isSame_28 (lv_at hl 0 rfl) ?_
          refine lv_iadd hx hb dX8_isSame_30 ?_
          refine lv_topi (fun v13 ev13 => ?_)
          obtain rfl : 1 = v13 := (ev13.trans (by decide)).symm
          refine vp_callSi (W.runV (As := [.int 1]) (rest := []) ⟨hx, hb, hml, hown, ht⟩ (c_J0_charAt_5068e_2 l dC dI ak av 1 ⟨by decide, by decide⟩) (kV 1 ht m_715 m_716 m_717 m_91 m_718 rfl rfl hd_J0_charAt_5068e_v ⟨Nat.le_of_ble_eq_true rfl, Nat.le_of_ble_eq_true rfl⟩) (vRZ noP (hK.sub (tys' := []) [] rfl) hZ (vk_recv hZ.1.2.2.2.2.2 (i := 2) (by decide) va_S.rf)) rfl rfl hl.1 rfl (lv_room (Nat.le_of_ble_eq_true rfl)) dX8_isSame_31 ⟨Nat.le_of_ble_eq_true rfl, Nat.le_of_ble_eq_true rfl⟩) (fun r14 hr14 => ?_)
          obtain rfl : 101 = r14 := (hr14.trans (by decide)).symm
          refine lv_aload_n hx hb dX8_isSame_34 rfl (lv_at hl 1 rfl) ?_
          refine gX_8_1 hx hb ht hown hK hP m_229 dX8_isSame_35 ?_
          refine lv_aload_n hx hb dX8_isSame_38 rfl (lv_at hl 1 rfl) ?_
          refine gX_8_5 hx hb ht hown hK hP m_235 (v := (iv 8 5)) rfl dX8_isSame_39 ?_
          refine lv_iload hx hb dX8_isSame_42 (lv_at hl 0 rfl) ?_
          refine lv_iadd hx hb dX8_isSame_44 ?_
          refine lv_topi (fun v15 ev15 => ?_)
          have tv15 := z_add ev15 (rfl : ((iv 8 5)).toInt = _) (by decide : (1 : Int32).toInt = 1) (by omega) (by omega)
          have : 0 ≤ (v15 : Int32).toInt ∧ (v15 : Int32).toInt ≤ 199 := ⟨by omega, by omega⟩
          refine lX_8_1 hx hb hK hP (f := (fa 8 1)) rfl (vp_in_iff.mpr ⟨by omega, by omega⟩) dX8_isSame_45 ?_
          refine lv_topi (fun v16 ev16 => ?_)
          refine lv_icmp_eq (tgt := 51) hx hb dX8_isSame_46 (by decide) (fun c17 => ?_) (fun c17 => ?_)
          · have fc17 := z_eq (by decide : (101 : Int32).toInt = 101) (rfl : (v16).toInt = _) c17
            refine lv_iinc (v := 2) (lv' := [(5, .int 2), (0, .ref (g 11 4)), (1, .ref (ak 2)), (2, .int 0), (3, .int 4), (4, .int d)]) hx hb dX8_isSame_51 hl (k := 0) rfl (by decide) (by decide) rfl (fun ls hl => ?_)
            refine lv_goto (tgt := 18) hx hb dX8_isSame_54 (by decide) ?_
            refine lv_iload hx hb dX8_isSame_18 (lv_at hl 0 rfl) ?_
            refine lv_iload_n hx hb dX8_isSame_20 rfl (lv_at hl 4 rfl) ?_
            refine lv_iload_n hx hb dX8_isSame_21 rfl (lv_at hl 3 rfl) ?_
            refine lv_isub hx hb dX8_isSame_22 ?_
            refine lv_topi (fun v18 ev18 => ?_)
            obtain rfl : 4 = v18 := (ev18.trans (by decide)).symm
            refine lv_icmp_ge (tgt := 57) hx hb dX8_isSame_23 (by decide) (fun c19 => ?_) (fun c19 => ?_)
            · exact absurd c19 (by decide)
            · skip
              refine lv_aload_n hx hb dX8_isSame_26 rfl (lv_at hl 2 rfl) ?_
              refine lv_iload_n hx hb dX8_isSame_27 rfl (lv_at hl 3 rfl) ?_
              refine lv_iload hx hb dX8_isSame_28 (lv_at hl 0 rfl) ?_
              refine lv_iadd hx hb dX8_isSame_30 ?_
              refine lv_topi (fun v20 ev20 => ?_)
              obtain rfl : 2 = v20 := (ev20.trans (by decide)).symm
              refine vp_callSi (W.runV (As := [.int 2]) (rest := []) ⟨hx, hb, hml, hown, ht⟩ (c_J0_charAt_5068e_2 l dC dI ak av 2 ⟨by decide, by decide⟩) (kV 1 ht m_715 m_716 m_717 m_91 m_718 rfl rfl hd_J0_charAt_5068e_v ⟨Nat.le_of_ble_eq_true rfl, Nat.le_of_ble_eq_true rfl⟩) (vRZ noP (hK.sub (tys' := []) [] rfl) hZ (vk_recv hZ.1.2.2.2.2.2 (i := 2) (by decide) va_S.rf)) rfl rfl hl.1 rfl (lv_room (Nat.le_of_ble_eq_true rfl)) dX8_isSame_31 ⟨Nat.le_of_ble_eq_true rfl, Nat.le_of_ble_eq_true rfl⟩) (fun r21 hr21 => ?_)
              obtain rfl : 97 = r21 := (hr21.trans (by decide)).symm
              refine lv_aload_n hx hb dX8_isSame_34 rfl (lv_at hl 1 rfl) ?_
              refine gX_8_1 hx hb ht hown hK hP m_229 dX8_isSame_35 ?_
              refine lv_aload_n hx hb dX8_isSame_38 rfl (lv_at hl 1 rfl) ?_
              refine gX_8_5 hx hb ht hown hK hP m_235 (v := (iv 8 5)) rfl dX8_isSame_39 ?_
              refine lv_iload hx hb dX8_isSame_42 (lv_at hl 0 rfl) ?_
              refine lv_iadd hx hb dX8_isSame_44 ?_
              refine lv_topi (fun v22 ev22 => ?_)
              have tv22 := z_add ev22 (rfl : ((iv 8 5)).toInt = _) (by decide : (2 : Int32).toInt = 2) (by omega) (by omega)
              have : 0 ≤ (v22 : Int32).toInt ∧ (v22 : Int32).toInt ≤ 199 := ⟨by omega, by omega⟩
              refine lX_8_1 hx hb hK hP (f := (fa 8 1)) rfl (vp_in_iff.mpr ⟨by omega, by omega⟩) dX8_isSame_45 ?_
              refine lv_topi (fun v23 ev23 => ?_)
              refine lv_icmp_eq (tgt := 51) hx hb dX8_isSame_46 (by decide) (fun c24 => ?_) (fun c24 => ?_)
              · have fc24 := z_eq (by decide : (97 : Int32).toInt = 97) (rfl : (v23).toInt = _) c24
                refine lv_iinc (v := 3) (lv' := [(5, .int 3), (0, .ref (g 11 4)), (1, .ref (ak 2)), (2, .int 0), (3, .int 4), (4, .int d)]) hx hb dX8_isSame_51 hl (k := 0) rfl (by decide) (by decide) rfl (fun ls hl => ?_)
                refine lv_goto (tgt := 18) hx hb dX8_isSame_54 (by decide) ?_
                refine lv_iload hx hb dX8_isSame_18 (lv_at hl 0 rfl) ?_
                refine lv_iload_n hx hb dX8_isSame_20 rfl (lv_at hl 4 rfl) ?_
                refine lv_iload_n hx hb dX8_isSame_21 rfl (lv_at hl 3 rfl) ?_
                refine lv_isub hx hb dX8_isSame_22 ?_
                refine lv_topi (fun v25 ev25 => ?_)
                obtain rfl : 4 = v25 := (ev25.trans (by decide)).symm
                refine lv_icmp_ge (tgt := 57) hx hb dX8_isSame_23 (by decide) (fun c26 => ?_) (fun c26 => ?_)
                · exact absurd c26 (by decide)
                · skip
                  refine lv_aload_n hx hb dX8_isSame_26 rfl (lv_at hl 2 rfl) ?_
                  refine lv_iload_n hx hb dX8_isSame_27 rfl (lv_at hl 3 rfl) ?_
                  refine lv_iload hx hb dX8_isSame_28 (lv_at hl 0 rfl) ?_
                  refine lv_iadd hx hb dX8_isSame_30 ?_
                  refine lv_topi (fun v27 ev27 => ?_)
                  obtain rfl : 3 = v27 := (ev27.trans (by decide)).symm
                  refine vp_callSi (W.runV (As := [.int 3]) (rest := []) ⟨hx, hb, hml, hown, ht⟩ (c_J0_charAt_5068e_2 l dC dI ak av 3 ⟨by decide, by decide⟩) (kV 1 ht m_715 m_716 m_717 m_91 m_718 rfl rfl hd_J0_charAt_5068e_v ⟨Nat.le_of_ble_eq_true rfl, Nat.le_of_ble_eq_true rfl⟩) (vRZ noP (hK.sub (tys' := []) [] rfl) hZ (vk_recv hZ.1.2.2.2.2.2 (i := 2) (by decide) va_S.rf)) rfl rfl hl.1 rfl (lv_room (Nat.le_of_ble_eq_true rfl)) dX8_isSame_31 ⟨Nat.le_of_ble_eq_true rfl, Nat.le_of_ble_eq_true rfl⟩) (fun r28 hr28 => ?_)
                  obtain rfl : 110 = r28 := (hr28.trans (by decide)).symm
                  refine lv_aload_n hx hb dX8_isSame_34 rfl (lv_at hl 1 rfl) ?_
                  refine gX_8_1 hx hb ht hown hK hP m_229 dX8_isSame_35 ?_
                  refine lv_aload_n hx hb dX8_isSame_38 rfl (lv_at hl 1 rfl) ?_
                  refine gX_8_5 hx hb ht hown hK hP m_235 (v := (iv 8 5)) rfl dX8_isSame_39 ?_
                  refine lv_iload hx hb dX8_isSame_42 (lv_at hl 0 rfl) ?_
                  refine lv_iadd hx hb dX8_isSame_44 ?_
                  refine lv_topi (fun v29 ev29 => ?_)
                  have tv29 := z_add ev29 (rfl : ((iv 8 5)).toInt = _) (by decide : (3 : Int32).toInt = 3) (by omega) (by omega)
                  have : 0 ≤ (v29 : Int32).toInt ∧ (v29 : Int32).toInt ≤ 199 := ⟨by omega, by omega⟩
                  refine lX_8_1 hx hb hK hP (f := (fa 8 1)) rfl (vp_in_iff.mpr ⟨by omega, by omega⟩) dX8_isSame_45 ?_
                  refine lv_topi (fun v30 ev30 => ?_)
                  refine lv_icmp_eq (tgt := 51) hx hb dX8_isSame_46 (by decide) (fun c31 => ?_) (fun c31 => ?_)
                  · have fc31 := z_eq (by decide : (110 : Int32).toInt = 110) (rfl : (v30).toInt = _) c31
                    refine lv_iinc (v := 4) (lv' := [(5, .int 4), (0, .ref (g 11 4)), (1, .ref (ak 2)), (2, .int 0), (3, .int 4), (4, .int d)]) hx hb dX8_isSame_51 hl (k := 0) rfl (by decide) (by decide) rfl (fun ls hl => ?_)
                    refine lv_goto (tgt := 18) hx hb dX8_isSame_54 (by decide) ?_
                    refine lv_iload hx hb dX8_isSame_18 (lv_at hl 0 rfl) ?_
                    refine lv_iload_n hx hb dX8_isSame_20 rfl (lv_at hl 4 rfl) ?_
                    refine lv_iload_n hx hb dX8_isSame_21 rfl (lv_at hl 3 rfl) ?_
                    refine lv_isub hx hb dX8_isSame_22 ?_
                    refine lv_topi (fun v32 ev32 => ?_)
                    obtain rfl : 4 = v32 := (ev32.trans (by decide)).symm
                    refine lv_icmp_ge (tgt := 57) hx hb dX8_isSame_23 (by decide) (fun c33 => ?_) (fun c33 => ?_)
                    · skip
                      refine lv_iconst (v := 1) hx hb dX8_isSame_57 (by decide) ?_
                      have : (1 : Int32).toInt = 1 := (by decide)
                      exact W.zret (v := 1) hx hb hr rfl (fun t ht9 hW => ⟨1, rfl, ⟨⟨by decide, by decide⟩, (show (((1 : Int32).toInt = 1 ∧ w_mean (fun j => ((fa 8 1) j).toInt) ((iv 8 5) : Int32).toInt (d).toInt) ∨ ((1 : Int32).toInt = 0 ∧ ¬ w_mean (fun j => ((fa 8 1) j).toInt) ((iv 8 5) : Int32).toInt (d).toInt)) from (by have q0 := congrArg Int32.toInt (ev9.trans (congrArg (fa 8 1) (show (v8 : Int32).toNatClampNeg = ((iv 8 5).toInt).toNat + 0 from (by show (v8 : Int32).toInt.toNat = _; omega)))); have q1 := congrArg Int32.toInt (ev16.trans (congrArg (fa 8 1) (show (v15 : Int32).toNatClampNeg = ((iv 8 5).toInt).toNat + 1 from (by show (v15 : Int32).toInt.toNat = _; omega)))); have q2 := congrArg Int32.toInt (ev23.trans (congrArg (fa 8 1) (show (v22 : Int32).toNatClampNeg = ((iv 8 5).toInt).toNat + 2 from (by show (v22 : Int32).toInt.toNat = _; omega)))); have q3 := congrArg Int32.toInt (ev30.trans (congrArg (fa 8 1) (show (v29 : Int32).toNatClampNeg = ((iv 8 5).toInt).toNat + 3 from (by show (v29 : Int32).toInt.toNat = _; omega)))); exact Or.inl ⟨by omega, (show d.toInt - (iv 8 5).toInt = 4 ∧ (fa 8 1 (((iv 8 5).toInt).toNat + 0)).toInt = 109 ∧ (fa 8 1 (((iv 8 5).toInt).toNat + 1)).toInt = 101 ∧ (fa 8 1 (((iv 8 5).toInt).toNat + 2)).toInt = 97 ∧ (fa 8 1 (((iv 8 5).toInt).toNat + 3)).toInt = 110 from ⟨by omega, by omega, by omega, by omega, by omega⟩)⟩))⟩, ht9⟩) (fun q hq => by cases hq) dX8_isSame_58
                    · exact absurd c33 (by decide)
                  · have fc31 := z_ne (by decide : (110 : Int32).toInt = 110) (rfl : (v30).toInt = _) c31
                    refine lv_iconst (v := 0) hx hb dX8_isSame_49 (by decide) ?_
                    have : (0 : Int32).toInt = 0 := (by decide)
                    exact W.zret (v := 0) hx hb hr rfl (fun t ht9 hW => ⟨0, rfl, ⟨⟨by decide, by decide⟩, (show (((0 : Int32).toInt = 1 ∧ w_mean (fun j => ((fa 8 1) j).toInt) ((iv 8 5) : Int32).toInt (d).toInt) ∨ ((0 : Int32).toInt = 0 ∧ ¬ w_mean (fun j => ((fa 8 1) j).toInt) ((iv 8 5) : Int32).toInt (d).toInt)) from (by have q0 := congrArg Int32.toInt (ev9.trans (congrArg (fa 8 1) (show (v8 : Int32).toNatClampNeg = ((iv 8 5).toInt).toNat + 0 from (by show (v8 : Int32).toInt.toNat = _; omega)))); have q1 := congrArg Int32.toInt (ev16.trans (congrArg (fa 8 1) (show (v15 : Int32).toNatClampNeg = ((iv 8 5).toInt).toNat + 1 from (by show (v15 : Int32).toInt.toNat = _; omega)))); have q2 := congrArg Int32.toInt (ev23.trans (congrArg (fa 8 1) (show (v22 : Int32).toNatClampNeg = ((iv 8 5).toInt).toNat + 2 from (by show (v22 : Int32).toInt.toNat = _; omega)))); have q3 := congrArg Int32.toInt (ev30.trans (congrArg (fa 8 1) (show (v29 : Int32).toNatClampNeg = ((iv 8 5).toInt).toNat + 3 from (by show (v29 : Int32).toInt.toNat = _; omega)))); exact Or.inr ⟨by omega, fun h9 => (by have h8 : d.toInt - (iv 8 5).toInt = 4 ∧ (fa 8 1 (((iv 8 5).toInt).toNat + 0)).toInt = 109 ∧ (fa 8 1 (((iv 8 5).toInt).toNat + 1)).toInt = 101 ∧ (fa 8 1 (((iv 8 5).toInt).toNat + 2)).toInt = 97 ∧ (fa 8 1 (((iv 8 5).toInt).toNat + 3)).toInt = 110 := h9; omega)⟩))⟩, ht9⟩) (fun q hq => by cases hq) dX8_isSame_50
              · have fc24 := z_ne (by decide : (97 : Int32).toInt = 97) (rfl : (v23).toInt = _) c24
                refine lv_iconst (v := 0) hx hb dX8_isSame_49 (by decide) ?_
                have : (0 : Int32).toInt = 0 := (by decide)
                exact W.zret (v := 0) hx hb hr rfl (fun t ht9 hW => ⟨0, rfl, ⟨⟨by decide, by decide⟩, (show (((0 : Int32).toInt = 1 ∧ w_mean (fun j => ((fa 8 1) j).toInt) ((iv 8 5) : Int32).toInt (d).toInt) ∨ ((0 : Int32).toInt = 0 ∧ ¬ w_mean (fun j => ((fa 8 1) j).toInt) ((iv 8 5) : Int32).toInt (d).toInt)) from (by have q0 := congrArg Int32.toInt (ev9.trans (congrArg (fa 8 1) (show (v8 : Int32).toNatClampNeg = ((iv 8 5).toInt).toNat + 0 from (by show (v8 : Int32).toInt.toNat = _; omega)))); have q1 := congrArg Int32.toInt (ev16.trans (congrArg (fa 8 1) (show (v15 : Int32).toNatClampNeg = ((iv 8 5).toInt).toNat + 1 from (by show (v15 : Int32).toInt.toNat = _; omega)))); have q2 := congrArg Int32.toInt (ev23.trans (congrArg (fa 8 1) (show (v22 : Int32).toNatClampNeg = ((iv 8 5).toInt).toNat + 2 from (by show (v22 : Int32).toInt.toNat = _; omega)))); exact Or.inr ⟨by omega, fun h9 => (by have h8 : d.toInt - (iv 8 5).toInt = 4 ∧ (fa 8 1 (((iv 8 5).toInt).toNat + 0)).toInt = 109 ∧ (fa 8 1 (((iv 8 5).toInt).toNat + 1)).toInt = 101 ∧ (fa 8 1 (((iv 8 5).toInt).toNat + 2)).toInt = 97 ∧ (fa 8 1 (((iv 8 5).toInt).toNat + 3)).toInt = 110 := h9; omega)⟩))⟩, ht9⟩) (fun q hq => by cases hq) dX8_isSame_50
          · have fc17 := z_ne (by decide : (101 : Int32).toInt = 101) (rfl : (v16).toInt = _) c17
            refine lv_iconst (v := 0) hx hb dX8_isSame_49 (by decide) ?_
            have : (0 : Int32).toInt = 0 := (by decide)
            exact W.zret (v := 0) hx hb hr rfl (fun t ht9 hW => ⟨0, rfl, ⟨⟨by decide, by decide⟩, (show (((0 : Int32).toInt = 1 ∧ w_mean (fun j => ((fa 8 1) j).toInt) ((iv 8 5) : Int32).toInt (d).toInt) ∨ ((0 : Int32).toInt = 0 ∧ ¬ w_mean (fun j => ((fa 8 1) j).toInt) ((iv 8 5) : Int32).toInt (d).toInt)) from (by have q0 := congrArg Int32.toInt (ev9.trans (congrArg (fa 8 1) (show (v8 : Int32).toNatClampNeg = ((iv 8 5).toInt).toNat + 0 from (by show (v8 : Int32).toInt.toNat = _; omega)))); have q1 := congrArg Int32.toInt (ev16.trans (congrArg (fa 8 1) (show (v15 : Int32).toNatClampNeg = ((iv 8 5).toInt).toNat + 1 from (by show (v15 : Int32).toInt.toNat = _; omega)))); exact Or.inr ⟨by omega, fun h9 => (by have h8 : d.toInt - (iv 8 5).toInt = 4 ∧ (fa 8 1 (((iv 8 5).toInt).toNat + 0)).toInt = 109 ∧ (fa 8 1 (((iv 8 5).toInt).toNat + 1)).toInt = 101 ∧ (fa 8 1 (((iv 8 5).toInt).toNat + 2)).toInt = 97 ∧ (fa 8 1 (((iv 8 5).toInt).toNat + 3)).toInt = 110 := h9; omega)⟩))⟩, ht9⟩) (fun q hq => by cases hq) dX8_isSame_50
      · have fc10 := z_ne (by decide : (109 : Int32).toInt = 109) (rfl : (v9).toInt = _) c10
        refine lv_iconst (v := 0) hx hb dX8_isSame_49 (by decide) ?_
        have : (0 : Int32).toInt = 0 := (by decide)
        exact W.zret (v := 0) hx hb hr rfl (fun t ht9 hW => ⟨0, rfl, ⟨⟨by decide, by decide⟩, (show (((0 : Int32).toInt = 1 ∧ w_mean (fun j => ((fa 8 1) j).toInt) ((iv 8 5) : Int32).toInt (d).toInt) ∨ ((0 : Int32).toInt = 0 ∧ ¬ w_mean (fun j => ((fa 8 1) j).toInt) ((iv 8 5) : Int32).toInt (d).toInt)) from (by have q0 := congrArg Int32.toInt (ev9.trans (congrArg (fa 8 1) (show (v8 : Int32).toNatClampNeg = ((iv 8 5).toInt).toNat + 0 from (by show (v8 : Int32).toInt.toNat = _; omega)))); exact Or.inr ⟨by omega, fun h9 => (by have h8 : d.toInt - (iv 8 5).toInt = 4 ∧ (fa 8 1 (((iv 8 5).toInt).toNat + 0)).toInt = 109 ∧ (fa 8 1 (((iv 8 5).toInt).toNat + 1)).toInt = 101 ∧ (fa 8 1 (((iv 8 5).toInt).toNat + 2)).toInt = 97 ∧ (fa 8 1 (((iv 8 5).toInt).toNat + 3)).toInt = 110 := h9; omega)⟩))⟩, ht9⟩) (fun q hq => by cases hq) dX8_isSame_50
  · have fc3 := z_ne (by decide : (4 : Int32).toInt = 4) (rfl : (v2).toInt = _) c3
    refine lv_iconst (v := 0) hx hb dX8_isSame_13 (by decide) ?_
    have : (0 : Int32).toInt = 0 := (by decide)
    exact W.zret (v := 0) hx hb hr rfl (fun t ht9 hW => ⟨0, rfl, ⟨⟨by decide, by decide⟩, (show (((0 : Int32).toInt = 1 ∧ w_mean (fun j => ((fa 8 1) j).toInt) ((iv 8 5) : Int32).toInt (d).toInt) ∨ ((0 : Int32).toInt = 0 ∧ ¬ w_mean (fun j => ((fa 8 1) j).toInt) ((iv 8 5) : Int32).toInt (d).toInt)) from (by exact Or.inr ⟨by omega, fun h9 => (by have h8 : d.toInt - (iv 8 5).toInt = 4 ∧ (fa 8 1 (((iv 8 5).toInt).toNat + 0)).toInt = 109 ∧ (fa 8 1 (((iv 8 5).toInt).toNat + 1)).toInt = 101 ∧ (fa 8 1 (((iv 8 5).toInt).toNat + 2)).toInt = 97 ∧ (fa 8 1 (((iv 8 5).toInt).toNat + 3)).toInt = 110 := h9; omega)⟩))⟩, ht9⟩) (fun q hq => by cases hq) dX8_isSame_14
set_option maxHeartbeats 4000000 in
set_option maxRecDepth 100000 in
/-- X8_isSame -/
theorem c_X8_isSame_r2_5 (l : Launch) (dC : Nat → ClassId) (dI : Nat → Nat → Nat) (ak av : Nat → Nat) (h : Nat) (g : Nat → Nat → Nat) (ca : Nat → Nat → ClassId) (iv : Nat → Nat → Int32) (lv : Nat → Nat → Int64) (fa : Nat → Nat → Nat → Int32) (la : Nat → Nat → Nat → Int64) (hI : IX iv fa) (d : Int32) (h_d : 0 ≤ d.toInt ∧ d.toInt ≤ 200) : Met l yX8_isSame (wc yX8_isSame cX8_isSame 6 (some .boolean)) ({ frames := 4, cells := 0, slots := 0, locals := 85 } : Room) (pRZ ak av (dC, dI) classes (WX h g ca iv lv fa la) (TX ca) [.ref (g 11 4), .ref (ak 2), .int 5, .int 10, .int d]) (vp_Si (fun r => (0 ≤ r.toInt ∧ r.toInt ≤ 1) ∧ (((r.toInt = 1 ∧ w_least (fun j => ((fa 8 1) j).toInt) (iv 8 5).toInt d.toInt) ∨ (r.toInt = 0 ∧ ¬ w_least (fun j => ((fa 8 1) j).toInt) (iv 8 5).toInt d.toInt))))) 0 0 (fun _ => False) := by
  refine Met.ofW (cc := cX8_isSame) (maxL := 6) (ret := (some .boolean)) (by decide) rfl ?_
  intro p e s m args below meth c s₁ B hml hv
  obtain ⟨rfl, hP, hK, hZ⟩ := hv
  have hx := B.exec
  have hb := B.bytes
  have hr := B.returns
  have ht := tb_tl (atoms_spec (ws := wc yX8_isSame cX8_isSame 6 (some .boolean)) B.pre)
  have hown : s.vm.findClass RX8 = some m.cls := findClass_of_methodNamed B.named
  have hlocks := B.notSynchronized
  have hl := lv_entry [.ref (g 11 4), .ref (ak 2), .int 5, .int 10, .int d] (n := 6) (Nat.le_of_ble_eq_true rfl)
  rw [lg_entry_eq]
  generalize (lg_sl [.ref (g 11 4), .ref (ak 2), .int 5, .int 10, .int d] ++ List.replicate (6 - (lg_sl [.ref (g 11 4), .ref (ak 2), .int 5, .int 10, .int d]).length) Slot.unset).toArray = ls at hl ⊢
  have hl : lv_has ls 6 [(0, .ref (g 11 4)), (1, .ref (ak 2)), (2, .int 5), (3, .int 10), (4, .int d)] := hl
  refine lv_iload_n hx hb dX8_isSame_0 rfl (lv_at hl 3 rfl) ?_
  refine lv_iload_n hx hb dX8_isSame_1 rfl (lv_at hl 2 rfl) ?_
  refine lv_isub hx hb dX8_isSame_2 ?_
  refine lv_topi (fun v1 ev1 => ?_)
  obtain rfl : 5 = v1 := (ev1.trans (by decide)).symm
  refine lv_iload hx hb dX8_isSame_3 (lv_at hl 4 rfl) ?_
  refine lv_aload_n hx hb dX8_isSame_5 rfl (lv_at hl 0 rfl) ?_
  have i_8_5 : 0 ≤ (iv 8 5).toInt ∧ (iv 8 5).toInt ≤ 200 := hI.1 8 5
  refine gX_8_5 hx hb ht hown hK hP m_235 (v := (iv 8 5)) rfl dX8_isSame_6 ?_
  refine lv_isub hx hb dX8_isSame_9 ?_
  refine lv_topi (fun v2 ev2 => ?_)
  have tv2 := z_sub ev2 (rfl : (d).toInt = _) (rfl : ((iv 8 5)).toInt = _) (by omega) (by omega)
  refine lv_icmp_eq (tgt := 15) hx hb dX8_isSame_10 (by decide) (fun c3 => ?_) (fun c3 => ?_)
  · have fc3 := z_eq (by decide : (5 : Int32).toInt = 5) (rfl : (v2).toInt = _) c3
    refine lv_iconst (v := 0) hx hb dX8_isSame_15 (by decide) ?_
    refine lv_istore (lv' := [(5, .int 0), (0, .ref (g 11 4)), (1, .ref (ak 2)), (2, .int 5), (3, .int 10), (4, .int d)]) hx hb dX8_isSame_16 hl (by decide) rfl (fun ls hl => ?_)
    refine lv_iload hx hb dX8_isSame_18 (lv_at hl 0 rfl) ?_
    refine lv_iload_n hx hb dX8_isSame_20 rfl (lv_at hl 4 rfl) ?_
    refine lv_iload_n hx hb dX8_isSame_21 rfl (lv_at hl 3 rfl) ?_
    refine lv_isub hx hb dX8_isSame_22 ?_
    refine lv_topi (fun v4 ev4 => ?_)
    obtain rfl : 5 = v4 := (ev4.trans (by decide)).symm
    refine lv_icmp_ge (tgt := 57) hx hb dX8_isSame_23 (by decide) (fun c5 => ?_) (fun c5 => ?_)
    · exact absurd c5 (by decide)
    · skip
      refine lv_aload_n hx hb dX8_isSame_26 rfl (lv_at hl 2 rfl) ?_
      refine lv_iload_n hx hb dX8_isSame_27 rfl (lv_at hl 3 rfl) ?_
      refine lv_iload hx hb dX8_isSame_28 (lv_at hl 0 rfl) ?_
      refine lv_iadd hx hb dX8_isSame_30 ?_
      refine lv_topi (fun v6 ev6 => ?_)
      obtain rfl : 5 = v6 := (ev6.trans (by decide)).symm
      refine vp_callSi (W.runV (As := [.int 5]) (rest := []) ⟨hx, hb, hml, hown, ht⟩ (c_J0_charAt_5068e_2 l dC dI ak av 5 ⟨by decide, by decide⟩) (kV 1 ht m_715 m_716 m_717 m_91 m_718 rfl rfl hd_J0_charAt_5068e_v ⟨Nat.le_of_ble_eq_true rfl, Nat.le_of_ble_eq_true rfl⟩) (vRZ noP (hK.sub (tys' := []) [] rfl) hZ (vk_recv hZ.1.2.2.2.2.2 (i := 2) (by decide) va_S.rf)) rfl rfl hl.1 rfl (lv_room (Nat.le_of_ble_eq_true rfl)) dX8_isSame_31 ⟨Nat.le_of_ble_eq_true rfl, Nat.le_of_ble_eq_true rfl⟩) (fun r7 hr7 => ?_)
      obtain rfl : 108 = r7 := (hr7.trans (by decide)).symm
      refine lv_aload_n hx hb dX8_isSame_34 rfl (lv_at hl 1 rfl) ?_
      refine gX_8_1 hx hb ht hown hK hP m_229 dX8_isSame_35 ?_
      refine lv_aload_n hx hb dX8_isSame_38 rfl (lv_at hl 1 rfl) ?_
      refine gX_8_5 hx hb ht hown hK hP m_235 (v := (iv 8 5)) rfl dX8_isSame_39 ?_
      refine lv_iload hx hb dX8_isSame_42 (lv_at hl 0 rfl) ?_
      refine lv_iadd hx hb dX8_isSame_44 ?_
      refine lv_topi (fun v8 ev8 => ?_)
      have tv8 := z_add ev8 (rfl : ((iv 8 5)).toInt = _) (by decide : (0 : Int32).toInt = 0) (by omega) (by omega)
      have : 0 ≤ (v8 : Int32).toInt ∧ (v8 : Int32).toInt ≤ 199 := ⟨by omega, by omega⟩
      refine lX_8_1 hx hb hK hP (f := (fa 8 1)) rfl (vp_in_iff.mpr ⟨by omega, by omega⟩) dX8_isSame_45 ?_
      refine lv_topi (fun v9 ev9 => ?_)
      refine lv_icmp_eq (tgt := 51) hx hb dX8_isSame_46 (by decide) (fun c10 => ?_) (fun c10 => ?_)
      · have fc10 := z_eq (by decide : (108 : Int32).toInt = 108) (rfl : (v9).toInt = _) c10
        refine lv_iinc (v := 1) (lv' := [(5, .int 1), (0, .ref (g 11 4)), (1, .ref (ak 2)), (2, .int 5), (3, .int 10), (4, .int d)]) hx hb dX8_isSame_51 hl (k := 0) rfl (by decide) (by decide) rfl (fun ls hl => ?_)
        refine lv_goto (tgt := 18) hx hb dX8_isSame_54 (by decide) ?_
        refine lv_iload hx hb dX8_isSame_18 (lv_at hl 0 rfl) ?_
        refine lv_iload_n hx hb dX8_isSame_20 rfl (lv_at hl 4 rfl) ?_
        refine lv_iload_n hx hb dX8_isSame_21 rfl (lv_at hl 3 rfl) ?_
        refine lv_isub hx hb dX8_isSame_22 ?_
        refine lv_topi (fun v11 ev11 => ?_)
        obtain rfl : 5 = v11 := (ev11.trans (by decide)).symm
        refine lv_icmp_ge (tgt := 57) hx hb dX8_isSame_23 (by decide) (fun c12 => ?_) (fun c12 => ?_)
        · exact absurd c12 (by decide)
        · skip
          refine lv_aload_n hx hb dX8_isSame_26 rfl (lv_at hl 2 rfl) ?_
          refine lv_iload_n hx hb dX8_isSame_27 rfl (lv_at hl 3 rfl) ?_
          refine lv_iload hx hb dX8_isSame_28 (lv_at hl 0 rfl) ?_
          refine lv_iadd hx hb dX8_isSame_30 ?_
          refine lv_topi (fun v13 ev13 => ?_)
          obtain rfl : 6 = v13 := (ev13.trans (by decide)).symm
          refine vp_callSi (W.runV (As := [.int 6]) (rest := []) ⟨hx, hb, hml, hown, ht⟩ (c_J0_charAt_5068e_2 l dC dI ak av 6 ⟨by decide, by decide⟩) (kV 1 ht m_715 m_716 m_717 m_91 m_718 rfl rfl hd_J0_charAt_5068e_v ⟨Nat.le_of_ble_eq_true rfl, Nat.le_of_ble_eq_true rfl⟩) (vRZ noP (hK.sub (tys' := []) [] rfl) hZ (vk_recv hZ.1.2.2.2.2.2 (i := 2) (by decide) va_S.rf)) rfl rfl hl.1 rfl (lv_room (Nat.le_of_ble_eq_true rfl)) dX8_isSame_31 ⟨Nat.le_of_ble_eq_true rfl, Nat.le_of_ble_eq_true rfl⟩) (fun r14 hr14 => ?_)
          obtain rfl : 101 = r14 := (hr14.trans (by decide)).symm
          refine lv_aload_n hx hb dX8_isSame_34 rfl (lv_at hl 1 rfl) ?_
          refine gX_8_1 hx hb ht hown hK hP m_229 dX8_isSame_35 ?_
          refine lv_aload_n hx hb dX8_isSame_38 rfl (lv_at hl 1 rfl) ?_
          refine gX_8_5 hx hb ht hown hK hP m_235 (v := (iv 8 5)) rfl dX8_isSame_39 ?_
          refine lv_iload hx hb dX8_isSame_42 (lv_at hl 0 rfl) ?_
          refine lv_iadd hx hb dX8_isSame_44 ?_
          refine lv_topi (fun v15 ev15 => ?_)
          have tv15 := z_add ev15 (rfl : ((iv 8 5)).toInt = _) (by decide : (1 : Int32).toInt = 1) (by omega) (by omega)
          have : 0 ≤ (v15 : Int32).toInt ∧ (v15 : Int32).toInt ≤ 199 := ⟨by omega, by omega⟩
          refine lX_8_1 hx hb hK hP (f := (fa 8 1)) rfl (vp_in_iff.mpr ⟨by omega, by omega⟩) dX8_isSame_45 ?_
          refine lv_topi (fun v16 ev16 => ?_)
          refine lv_icmp_eq (tgt := 51) hx hb dX8_isSame_46 (by decide) (fun c17 => ?_) (fun c17 => ?_)
          · have fc17 := z_eq (by decide : (101 : Int32).toInt = 101) (rfl : (v16).toInt = _) c17
            refine lv_iinc (v := 2) (lv' := [(5, .int 2), (0, .ref (g 11 4)), (1, .ref (ak 2)), (2, .int 5), (3, .int 10), (4, .int d)]) hx hb dX8_isSame_51 hl (k := 0) rfl (by decide) (by decide) rfl (fun ls hl => ?_)
            refine lv_goto (tgt := 18) hx hb dX8_isSame_54 (by decide) ?_
            refine lv_iload hx hb dX8_isSame_18 (lv_at hl 0 rfl) ?_
            refine lv_iload_n hx hb dX8_isSame_20 rfl (lv_at hl 4 rfl) ?_
            refine lv_iload_n hx hb dX8_isSame_21 rfl (lv_at hl 3 rfl) ?_
            refine lv_isub hx hb dX8_isSame_22 ?_
            refine lv_topi (fun v18 ev18 => ?_)
            obtain rfl : 5 = v18 := (ev18.trans (by decide)).symm
            refine lv_icmp_ge (tgt := 57) hx hb dX8_isSame_23 (by decide) (fun c19 => ?_) (fun c19 => ?_)
            · exact absurd c19 (by decide)
            · skip
              refine lv_aload_n hx hb dX8_isSame_26 rfl (lv_at hl 2 rfl) ?_
              refine lv_iload_n hx hb dX8_isSame_27 rfl (lv_at hl 3 rfl) ?_
              refine lv_iload hx hb dX8_isSame_28 (lv_at hl 0 rfl) ?_
              refine lv_iadd hx hb dX8_isSame_30 ?_
              refine lv_topi (fun v20 ev20 => ?_)
              obtain rfl : 7 = v20 := (ev20.trans (by decide)).symm
              refine vp_callSi (W.runV (As := [.int 7]) (rest := []) ⟨hx, hb, hml, hown, ht⟩ (c_J0_charAt_5068e_2 l dC dI ak av 7 ⟨by decide, by decide⟩) (kV 1 ht m_715 m_716 m_717 m_91 m_718 rfl rfl hd_J0_charAt_5068e_v ⟨Nat.le_of_ble_eq_true rfl, Nat.le_of_ble_eq_true rfl⟩) (vRZ noP (hK.sub (tys' := []) [] rfl) hZ (vk_recv hZ.1.2.2.2.2.2 (i := 2) (by decide) va_S.rf)) rfl rfl hl.1 rfl (lv_room (Nat.le_of_ble_eq_true rfl)) dX8_isSame_31 ⟨Nat.le_of_ble_eq_true rfl, Nat.le_of_ble_eq_true rfl⟩) (fun r21 hr21 => ?_)
              obtain rfl : 97 = r21 := (hr21.trans (by decide)).symm
              refine lv_aload_n hx hb dX8_isSame_34 rfl (lv_at hl 1 rfl) ?_
              refine gX_8_1 hx hb ht hown hK hP m_229 dX8_isSame_35 ?_
              refine lv_aload_n hx hb dX8_isSame_38 rfl (lv_at hl 1 rfl) ?_
              refine gX_8_5 hx hb ht hown hK hP m_235 (v := (iv 8 5)) rfl dX8_isSame_39 ?_
              refine lv_iload hx hb dX8_isSame_42 (lv_at hl 0 rfl) ?_
              refine lv_iadd hx hb dX8_isSame_44 ?_
              refine lv_topi (fun v22 ev22 => ?_)
              have tv22 := z_add ev22 (rfl : ((iv 8 5)).toInt = _) (by decide : (2 : Int32).toInt = 2) (by omega) (by omega)
              have : 0 ≤ (v22 : Int32).toInt ∧ (v22 : Int32).toInt ≤ 199 := ⟨by omega, by omega⟩
              refine lX_8_1 hx hb hK hP (f := (fa 8 1)) rfl (vp_in_iff.mpr ⟨by omega, by omega⟩) dX8_isSame_45 ?_
              refine lv_topi (fun v23 ev23 => ?_)
              refine lv_icmp_eq (tgt := 51) hx hb dX8_isSame_46 (by decide) (fun c24 => ?_) (fun c24 => ?_)
              · have fc24 := z_eq (by decide : (97 : Int32).toInt = 97) (rfl : (v23).toInt = _) c24
                refine lv_iinc (v := 3) (lv' := [(5, .int 3), (0, .ref (g 11 4)), (1, .ref (ak 2)), (2, .int 5), (3, .int 10), (4, .int d)]) hx hb dX8_isSame_51 hl (k := 0) rfl (by decide) (by decide) rfl (fun ls hl => ?_)
                refine lv_goto (tgt := 18) hx hb dX8_isSame_54 (by decide) ?_
                refine lv_iload hx hb dX8_isSame_18 (lv_at hl 0 rfl) ?_
                refine lv_iload_n hx hb dX8_isSame_20 rfl (lv_at hl 4 rfl) ?_
                refine lv_iload_n hx hb dX8_isSame_21 rfl (lv_at hl 3 rfl) ?_
                refine lv_isub hx hb dX8_isSame_22 ?_
                refine lv_topi (fun v25 ev25 => ?_)
                obtain rfl : 5 = v25 := (ev25.trans (by decide)).symm
                refine lv_icmp_ge (tgt := 57) hx hb dX8_isSame_23 (by decide) (fun c26 => ?_) (fun c26 => ?_)
                · exact absurd c26 (by decide)
                · skip
                  refine lv_aload_n hx hb dX8_isSame_26 rfl (lv_at hl 2 rfl) ?_
                  refine lv_iload_n hx hb dX8_isSame_27 rfl (lv_at hl 3 rfl) ?_
                  refine lv_iload hx hb dX8_isSame_28 (lv_at hl 0 rfl) ?_
                  refine lv_iadd hx hb dX8_isSame_30 ?_
                  refine lv_topi (fun v27 ev27 => ?_)
                  obtain rfl : 8 = v27 := (ev27.trans (by decide)).symm
                  refine vp_callSi (W.runV (As := [.int 8]) (rest := []) ⟨hx, hb, hml, hown, ht⟩ (c_J0_charAt_5068e_2 l dC dI ak av 8 ⟨by decide, by decide⟩) (kV 1 ht m_715 m_716 m_717 m_91 m_718 rfl rfl hd_J0_charAt_5068e_v ⟨Nat.le_of_ble_eq_true rfl, Nat.le_of_ble_eq_true rfl⟩) (vRZ noP (hK.sub (tys' := []) [] rfl) hZ (vk_recv hZ.1.2.2.2.2.2 (i := 2) (by decide) va_S.rf)) rfl rfl hl.1 rfl (lv_room (Nat.le_of_ble_eq_true rfl)) dX8_isSame_31 ⟨Nat.le_of_ble_eq_true rfl, Nat.le_of_ble_eq_true rfl⟩) (fun r28 hr28 => ?_)
                  obtain rfl : 115 = r28 := (hr28.trans (by decide)).symm
                  refine lv_aload_n hx hb dX8_isSame_34 rfl (lv_at hl 1 rfl) ?_
                  refine gX_8_1 hx hb ht hown hK hP m_229 dX8_isSame_35 ?_
                  refine lv_aload_n hx hb dX8_isSame_38 rfl (lv_at hl 1 rfl) ?_
                  refine gX_8_5 hx hb ht hown hK hP m_235 (v := (iv 8 5)) rfl dX8_isSame_39 ?_
                  refine lv_iload hx hb dX8_isSame_42 (lv_at hl 0 rfl) ?_
                  refine lv_iadd hx hb dX8_isSame_44 ?_
                  refine lv_topi (fun v29 ev29 => ?_)
                  have tv29 := z_add ev29 (rfl : ((iv 8 5)).toInt = _) (by decide : (3 : Int32).toInt = 3) (by omega) (by omega)
                  have : 0 ≤ (v29 : Int32).toInt ∧ (v29 : Int32).toInt ≤ 199 := ⟨by omega, by omega⟩
                  refine lX_8_1 hx hb hK hP (f := (fa 8 1)) rfl (vp_in_iff.mpr ⟨by omega, by omega⟩) dX8_isSame_45 ?_
                  refine lv_topi (fun v30 ev30 => ?_)
                  refine lv_icmp_eq (tgt := 51) hx hb dX8_isSame_46 (by decide) (fun c31 => ?_) (fun c31 => ?_)
                  · have fc31 := z_eq (by decide : (115 : Int32).toInt = 115) (rfl : (v30).toInt = _) c31
                    refine lv_iinc (v := 4) (lv' := [(5, .int 4), (0, .ref (g 11 4)), (1, .ref (ak 2)), (2, .int 5), (3, .int 10), (4, .int d)]) hx hb dX8_isSame_51 hl (k := 0) rfl (by decide) (by decide) rfl (fun ls hl => ?_)
                    refine lv_goto (tgt := 18) hx hb dX8_isSame_54 (by decide) ?_
                    refine lv_iload hx hb dX8_isSame_18 (lv_at hl 0 rfl) ?_
                    refine lv_iload_n hx hb dX8_isSame_20 rfl (lv_at hl 4 rfl) ?_
                    refine lv_iload_n hx hb dX8_isSame_21 rfl (lv_at hl 3 rfl) ?_
                    refine lv_isub hx hb dX8_isSame_22 ?_
                    refine lv_topi (fun v32 ev32 => ?_)
                    obtain rfl : 5 = v32 := (ev32.trans (by decide)).symm
                    refine lv_icmp_ge (tgt := 57) hx hb dX8_isSame_23 (by decide) (fun c33 => ?_) (fun c33 => ?_)
                    · exact absurd c33 (by decide)
                    · skip
                      refine lv_aload_n hx hb dX8_isSame_26 rfl (lv_at hl 2 rfl) ?_
                      refine lv_iload_n hx hb dX8_isSame_27 rfl (lv_at hl 3 rfl) ?_
                      refine lv_iload hx hb dX8_isSame_28 (lv_at hl 0 rfl) ?_
                      refine lv_iadd hx hb dX8_isSame_30 ?_
                      refine lv_topi (fun v34 ev34 => ?_)
                      obtain rfl : 9 = v34 := (ev34.trans (by decide)).symm
                      refine vp_callSi (W.runV (As := [.int 9]) (rest := []) ⟨hx, hb, hml, hown, ht⟩ (c_J0_charAt_5068e_2 l dC dI ak av 9 ⟨by decide, by decide⟩) (kV 1 ht m_715 m_716 m_717 m_91 m_718 rfl rfl hd_J0_charAt_5068e_v ⟨Nat.le_of_ble_eq_true rfl, Nat.le_of_ble_eq_true rfl⟩) (vRZ noP (hK.sub (tys' := []) [] rfl) hZ (vk_recv hZ.1.2.2.2.2.2 (i := 2) (by decide) va_S.rf)) rfl rfl hl.1 rfl (lv_room (Nat.le_of_ble_eq_true rfl)) dX8_isSame_31 ⟨Nat.le_of_ble_eq_true rfl, Nat.le_of_ble_eq_true rfl⟩) (fun r35 hr35 => ?_)
                      obtain rfl : 116 = r35 := (hr35.trans (by decide)).symm
                      refine lv_aload_n hx hb dX8_isSame_34 rfl (lv_at hl 1 rfl) ?_
                      refine gX_8_1 hx hb ht hown hK hP m_229 dX8_isSame_35 ?_
                      refine lv_aload_n hx hb dX8_isSame_38 rfl (lv_at hl 1 rfl) ?_
                      refine gX_8_5 hx hb ht hown hK hP m_235 (v := (iv 8 5)) rfl dX8_isSame_39 ?_
                      refine lv_iload hx hb dX8_isSame_42 (lv_at hl 0 rfl) ?_
                      refine lv_iadd hx hb dX8_isSame_44 ?_
                      refine lv_topi (fun v36 ev36 => ?_)
                      have tv36 := z_add ev36 (rfl : ((iv 8 5)).toInt = _) (by decide : (4 : Int32).toInt = 4) (by omega) (by omega)
                      have : 0 ≤ (v36 : Int32).toInt ∧ (v36 : Int32).toInt ≤ 199 := ⟨by omega, by omega⟩
                      refine lX_8_1 hx hb hK hP (f := (fa 8 1)) rfl (vp_in_iff.mpr ⟨by omega, by omega⟩) dX8_isSame_45 ?_
                      refine lv_topi (fun v37 ev37 => ?_)
                      refine lv_icmp_eq (tgt := 51) hx hb dX8_isSame_46 (by decide) (fun c38 => ?_) (fun c38 => ?_)
                      · have fc38 := z_eq (by decide : (116 : Int32).toInt = 116) (rfl : (v37).toInt = _) c38
                        refine lv_iinc (v := 5) (lv' := [(5, .int 5), (0, .ref (g 11 4)), (1, .ref (ak 2)), (2, .int 5), (3, .int 10), (4, .int d)]) hx hb dX8_isSame_51 hl (k := 0) rfl (by decide) (by decide) rfl (fun ls hl => ?_)
                        refine lv_goto (tgt := 18) hx hb dX8_isSame_54 (by decide) ?_
                        refine lv_iload hx hb dX8_isSame_18 (lv_at hl 0 rfl) ?_
                        refine lv_iload_n hx hb dX8_isSame_20 rfl (lv_at hl 4 rfl) ?_
                        refine lv_iload_n hx hb dX8_isSame_21 rfl (lv_at hl 3 rfl) ?_
                        refine lv_isub hx hb dX8_isSame_22 ?_
                        refine lv_topi (fun v39 ev39 => ?_)
                        obtain rfl : 5 = v39 := (ev39.trans (by decide)).symm
                        refine lv_icmp_ge (tgt := 57) hx hb dX8_isSame_23 (by decide) (fun c40 => ?_) (fun c40 => ?_)
                        · skip
                          refine lv_iconst (v := 1) hx hb dX8_isSame_57 (by decide) ?_
                          have : (1 : Int32).toInt = 1 := (by decide)
                          exact W.zret (v := 1) hx hb hr rfl (fun t ht9 hW => ⟨1, rfl, ⟨⟨by decide, by decide⟩, (show (((1 : Int32).toInt = 1 ∧ w_least (fun j => ((fa 8 1) j).toInt) ((iv 8 5) : Int32).toInt (d).toInt) ∨ ((1 : Int32).toInt = 0 ∧ ¬ w_least (fun j => ((fa 8 1) j).toInt) ((iv 8 5) : Int32).toInt (d).toInt)) from (by have q0 := congrArg Int32.toInt (ev9.trans (congrArg (fa 8 1) (show (v8 : Int32).toNatClampNeg = ((iv 8 5).toInt).toNat + 0 from (by show (v8 : Int32).toInt.toNat = _; omega)))); have q1 := congrArg Int32.toInt (ev16.trans (congrArg (fa 8 1) (show (v15 : Int32).toNatClampNeg = ((iv 8 5).toInt).toNat + 1 from (by show (v15 : Int32).toInt.toNat = _; omega)))); have q2 := congrArg Int32.toInt (ev23.trans (congrArg (fa 8 1) (show (v22 : Int32).toNatClampNeg = ((iv 8 5).toInt).toNat + 2 from (by show (v22 : Int32).toInt.toNat = _; omega)))); have q3 := congrArg Int32.toInt (ev30.trans (congrArg (fa 8 1) (show (v29 : Int32).toNatClampNeg = ((iv 8 5).toInt).toNat + 3 from (by show (v29 : Int32).toInt.toNat = _; omega)))); have q4 := congrArg Int32.toInt (ev37.trans (congrArg (fa 8 1) (show (v36 : Int32).toNatClampNeg = ((iv 8 5).toInt).toNat + 4 from (by show (v36 : Int32).toInt.toNat = _; omega)))); exact Or.inl ⟨by omega, (show d.toInt - (iv 8 5).toInt = 5 ∧ (fa 8 1 (((iv 8 5).toInt).toNat + 0)).toInt = 108 ∧ (fa 8 1 (((iv 8 5).toInt).toNat + 1)).toInt = 101 ∧ (fa 8 1 (((iv 8 5).toInt).toNat + 2)).toInt = 97 ∧ (fa 8 1 (((iv 8 5).toInt).toNat + 3)).toInt = 115 ∧ (fa 8 1 (((iv 8 5).toInt).toNat + 4)).toInt = 116 from ⟨by omega, by omega, by omega, by omega, by omega, by omega⟩)⟩))⟩, ht9⟩) (fun q hq => by cases hq) dX8_isSame_58
                        · exact absurd c40 (by decide)
                      · have fc38 := z_ne (by decide : (116 : Int32).toInt = 116) (rfl : (v37).toInt = _) c38
                        refine lv_iconst (v := 0) hx hb dX8_isSame_49 (by decide) ?_
                        have : (0 : Int32).toInt = 0 := (by decide)
                        exact W.zret (v := 0) hx hb hr rfl (fun t ht9 hW => ⟨0, rfl, ⟨⟨by decide, by decide⟩, (show (((0 : Int32).toInt = 1 ∧ w_least (fun j => ((fa 8 1) j).toInt) ((iv 8 5) : Int32).toInt (d).toInt) ∨ ((0 : Int32).toInt = 0 ∧ ¬ w_least (fun j => ((fa 8 1) j).toInt) ((iv 8 5) : Int32).toInt (d).toInt)) from (by have q0 := congrArg Int32.toInt (ev9.trans (congrArg (fa 8 1) (show (v8 : Int32).toNatClampNeg = ((iv 8 5).toInt).toNat + 0 from (by show (v8 : Int32).toInt.toNat = _; omega)))); have q1 := congrArg Int32.toInt (ev16.trans (congrArg (fa 8 1) (show (v15 : Int32).toNatClampNeg = ((iv 8 5).toInt).toNat + 1 from (by show (v15 : Int32).toInt.toNat = _; omega)))); have q2 := congrArg Int32.toInt (ev23.trans (congrArg (fa 8 1) (show (v22 : Int32).toNatClampNeg = ((iv 8 5).toInt).toNat + 2 from (by show (v22 : Int32).toInt.toNat = _; omega)))); have q3 := congrArg Int32.toInt (ev30.trans (congrArg (fa 8 1) (show (v29 : Int32).toNatClampNeg = ((iv 8 5).toInt).toNat + 3 from (by show (v29 : Int32).toInt.toNat = _; omega)))); have q4 := congrArg Int32.toInt (ev37.trans (congrArg (fa 8 1) (show (v36 : Int32).toNatClampNeg = ((iv 8 5).toInt).toNat + 4 from (by show (v36 : Int32).toInt.toNat = _; omega)))); exact Or.inr ⟨by omega, fun h9 => (by have h8 : d.toInt - (iv 8 5).toInt = 5 ∧ (fa 8 1 (((iv 8 5).toInt).toNat + 0)).toInt = 108 ∧ (fa 8 1 (((iv 8 5).toInt).toNat + 1)).toInt = 101 ∧ (fa 8 1 (((iv 8 5).toInt).toNat + 2)).toInt = 97 ∧ (fa 8 1 (((iv 8 5).toInt).toNat + 3)).toInt = 115 ∧ (fa 8 1 (((iv 8 5).toInt).toNat + 4)).toInt = 116 := h9; omega)⟩))⟩, ht9⟩) (fun q hq => by cases hq) dX8_isSame_50
                  · have fc31 := z_ne (by decide : (115 : Int32).toInt = 115) (rfl : (v30).toInt = _) c31
                    refine lv_iconst (v := 0) hx hb dX8_isSame_49 (by decide) ?_
                    have : (0 : Int32).toInt = 0 := (by decide)
                    exact W.zret (v := 0) hx hb hr rfl (fun t ht9 hW => ⟨0, rfl, ⟨⟨by decide, by decide⟩, (show (((0 : Int32).toInt = 1 ∧ w_least (fun j => ((fa 8 1) j).toInt) ((iv 8 5) : Int32).toInt (d).toInt) ∨ ((0 : Int32).toInt = 0 ∧ ¬ w_least (fun j => ((fa 8 1) j).toInt) ((iv 8 5) : Int32).toInt (d).toInt)) from (by have q0 := congrArg Int32.toInt (ev9.trans (congrArg (fa 8 1) (show (v8 : Int32).toNatClampNeg = ((iv 8 5).toInt).toNat + 0 from (by show (v8 : Int32).toInt.toNat = _; omega)))); have q1 := congrArg Int32.toInt (ev16.trans (congrArg (fa 8 1) (show (v15 : Int32).toNatClampNeg = ((iv 8 5).toInt).toNat + 1 from (by show (v15 : Int32).toInt.toNat = _; omega)))); have q2 := congrArg Int32.toInt (ev23.trans (congrArg (fa 8 1) (show (v22 : Int32).toNatClampNeg = ((iv 8 5).toInt).toNat + 2 from (by show (v22 : Int32).toInt.toNat = _; omega)))); have q3 := congrArg Int32.toInt (ev30.trans (congrArg (fa 8 1) (show (v29 : Int32).toNatClampNeg = ((iv 8 5).toInt).toNat + 3 from (by show (v29 : Int32).toInt.toNat = _; omega)))); exact Or.inr ⟨by omega, fun h9 => (by have h8 : d.toInt - (iv 8 5).toInt = 5 ∧ (fa 8 1 (((iv 8 5).toInt).toNat + 0)).toInt = 108 ∧ (fa 8 1 (((iv 8 5).toInt).toNat + 1)).toInt = 101 ∧ (fa 8 1 (((iv 8 5).toInt).toNat + 2)).toInt = 97 ∧ (fa 8 1 (((iv 8 5).toInt).toNat + 3)).toInt = 115 ∧ (fa 8 1 (((iv 8 5).toInt).toNat + 4)).toInt = 116 := h9; omega)⟩))⟩, ht9⟩) (fun q hq => by cases hq) dX8_isSame_50
              · have fc24 := z_ne (by decide : (97 : Int32).toInt = 97) (rfl : (v23).toInt = _) c24
                refine lv_iconst (v := 0) hx hb dX8_isSame_49 (by decide) ?_
                have : (0 : Int32).toInt = 0 := (by decide)
                exact W.zret (v := 0) hx hb hr rfl (fun t ht9 hW => ⟨0, rfl, ⟨⟨by decide, by decide⟩, (show (((0 : Int32).toInt = 1 ∧ w_least (fun j => ((fa 8 1) j).toInt) ((iv 8 5) : Int32).toInt (d).toInt) ∨ ((0 : Int32).toInt = 0 ∧ ¬ w_least (fun j => ((fa 8 1) j).toInt) ((iv 8 5) : Int32).toInt (d).toInt)) from (by have q0 := congrArg Int32.toInt (ev9.trans (congrArg (fa 8 1) (show (v8 : Int32).toNatClampNeg = ((iv 8 5).toInt).toNat + 0 from (by show (v8 : Int32).toInt.toNat = _; omega)))); have q1 := congrArg Int32.toInt (ev16.trans (congrArg (fa 8 1) (show (v15 : Int32).toNatClampNeg = ((iv 8 5).toInt).toNat + 1 from (by show (v15 : Int32).toInt.toNat = _; omega)))); have q2 := congrArg Int32.toInt (ev23.trans (congrArg (fa 8 1) (show (v22 : Int32).toNatClampNeg = ((iv 8 5).toInt).toNat + 2 from (by show (v22 : Int32).toInt.toNat = _; omega)))); exact Or.inr ⟨by omega, fun h9 => (by have h8 : d.toInt - (iv 8 5).toInt = 5 ∧ (fa 8 1 (((iv 8 5).toInt).toNat + 0)).toInt = 108 ∧ (fa 8 1 (((iv 8 5).toInt).toNat + 1)).toInt = 101 ∧ (fa 8 1 (((iv 8 5).toInt).toNat + 2)).toInt = 97 ∧ (fa 8 1 (((iv 8 5).toInt).toNat + 3)).toInt = 115 ∧ (fa 8 1 (((iv 8 5).toInt).toNat + 4)).toInt = 116 := h9; omega)⟩))⟩, ht9⟩) (fun q hq => by cases hq) dX8_isSame_50
          · have fc17 := z_ne (by decide : (101 : Int32).toInt = 101) (rfl : (v16).toInt = _) c17
            refine lv_iconst (v := 0) hx hb dX8_isSame_49 (by decide) ?_
            have : (0 : Int32).toInt = 0 := (by decide)
            exact W.zret (v := 0) hx hb hr rfl (fun t ht9 hW => ⟨0, rfl, ⟨⟨by decide, by decide⟩, (show (((0 : Int32).toInt = 1 ∧ w_least (fun j => ((fa 8 1) j).toInt) ((iv 8 5) : Int32).toInt (d).toInt) ∨ ((0 : Int32).toInt = 0 ∧ ¬ w_least (fun j => ((fa 8 1) j).toInt) ((iv 8 5) : Int32).toInt (d).toInt)) from (by have q0 := congrArg Int32.toInt (ev9.trans (congrArg (fa 8 1) (show (v8 : Int32).toNatClampNeg = ((iv 8 5).toInt).toNat + 0 from (by show (v8 : Int32).toInt.toNat = _; omega)))); have q1 := congrArg Int32.toInt (ev16.trans (congrArg (fa 8 1) (show (v15 : Int32).toNatClampNeg = ((iv 8 5).toInt).toNat + 1 from (by show (v15 : Int32).toInt.toNat = _; omega)))); exact Or.inr ⟨by omega, fun h9 => (by have h8 : d.toInt - (iv 8 5).toInt = 5 ∧ (fa 8 1 (((iv 8 5).toInt).toNat + 0)).toInt = 108 ∧ (fa 8 1 (((iv 8 5).toInt).toNat + 1)).toInt = 101 ∧ (fa 8 1 (((iv 8 5).toInt).toNat + 2)).toInt = 97 ∧ (fa 8 1 (((iv 8 5).toInt).toNat + 3)).toInt = 115 ∧ (fa 8 1 (((iv 8 5).toInt).toNat + 4)).toInt = 116 := h9; omega)⟩))⟩, ht9⟩) (fun q hq => by cases hq) dX8_isSame_50
      · have fc10 := z_ne (by decide : (108 : Int32).toInt = 108) (rfl : (v9).toInt = _) c10
        refine lv_iconst (v := 0) hx hb dX8_isSame_49 (by decide) ?_
        have : (0 : Int32).toInt = 0 := (by decide)
        exact W.zret (v := 0) hx hb hr rfl (fun t ht9 hW => ⟨0, rfl, ⟨⟨by decide, by decide⟩, (show (((0 : Int32).toInt = 1 ∧ w_least (fun j => ((fa 8 1) j).toInt) ((iv 8 5) : Int32).toInt (d).toInt) ∨ ((0 : Int32).toInt = 0 ∧ ¬ w_least (fun j => ((fa 8 1) j).toInt) ((iv 8 5) : Int32).toInt (d).toInt)) from (by have q0 := congrArg Int32.toInt (ev9.trans (congrArg (fa 8 1) (show (v8 : Int32).toNatClampNeg = ((iv 8 5).toInt).toNat + 0 from (by show (v8 : Int32).toInt.toNat = _; omega)))); exact Or.inr ⟨by omega, fun h9 => (by have h8 : d.toInt - (iv 8 5).toInt = 5 ∧ (fa 8 1 (((iv 8 5).toInt).toNat + 0)).toInt = 108 ∧ (fa 8 1 (((iv 8 5).toInt).toNat + 1)).toInt = 101 ∧ (fa 8 1 (((iv 8 5).toInt).toNat + 2)).toInt = 97 ∧ (fa 8 1 (((iv 8 5).toInt).toNat + 3)).toInt = 115 ∧ (fa 8 1 (((iv 8 5).toInt).toNat + 4)).toInt = 116 := h9; omega)⟩))⟩, ht9⟩) (fun q hq => by cases hq) dX8_isSame_50
  · have fc3 := z_ne (by decide : (5 : Int32).toInt = 5) (rfl : (v2).toInt = _) c3
    refine lv_iconst (v := 0) hx hb dX8_isSame_13 (by decide) ?_
    have : (0 : Int32).toInt = 0 := (by decide)
    exact W.zret (v := 0) hx hb hr rfl (fun t ht9 hW => ⟨0, rfl, ⟨⟨by decide, by decide⟩, (show (((0 : Int32).toInt = 1 ∧ w_least (fun j => ((fa 8 1) j).toInt) ((iv 8 5) : Int32).toInt (d).toInt) ∨ ((0 : Int32).toInt = 0 ∧ ¬ w_least (fun j => ((fa 8 1) j).toInt) ((iv 8 5) : Int32).toInt (d).toInt)) from (by exact Or.inr ⟨by omega, fun h9 => (by have h8 : d.toInt - (iv 8 5).toInt = 5 ∧ (fa 8 1 (((iv 8 5).toInt).toNat + 0)).toInt = 108 ∧ (fa 8 1 (((iv 8 5).toInt).toNat + 1)).toInt = 101 ∧ (fa 8 1 (((iv 8 5).toInt).toNat + 2)).toInt = 97 ∧ (fa 8 1 (((iv 8 5).toInt).toNat + 3)).toInt = 115 ∧ (fa 8 1 (((iv 8 5).toInt).toNat + 4)).toInt = 116 := h9; omega)⟩))⟩, ht9⟩) (fun q hq => by cases hq) dX8_isSame_14
set_option maxHeartbeats 4000000 in
set_option maxRecDepth 100000 in
/-- X8_isSame -/
theorem c_X8_isSame_r2_11 (l : Launch) (dC : Nat → ClassId) (dI : Nat → Nat → Nat) (ak av : Nat → Nat) (h : Nat) (g : Nat → Nat → Nat) (ca : Nat → Nat → ClassId) (iv : Nat → Nat → Int32) (lv : Nat → Nat → Int64) (fa : Nat → Nat → Nat → Int32) (la : Nat → Nat → Nat → Int64) (hI : IX iv fa) (d : Int32) (h_d : 0 ≤ d.toInt ∧ d.toInt ≤ 200) : Met l yX8_isSame (wc yX8_isSame cX8_isSame 6 (some .boolean)) ({ frames := 4, cells := 0, slots := 0, locals := 85 } : Room) (pRZ ak av (dC, dI) classes (WX h g ca iv lv fa la) (TX ca) [.ref (g 11 4), .ref (ak 2), .int 11, .int 17, .int d]) (vp_Si (fun r => (0 ≤ r.toInt ∧ r.toInt ≤ 1) ∧ (((r.toInt = 1 ∧ w_middle (fun j => ((fa 8 1) j).toInt) (iv 8 5).toInt d.toInt) ∨ (r.toInt = 0 ∧ ¬ w_middle (fun j => ((fa 8 1) j).toInt) (iv 8 5).toInt d.toInt))))) 0 0 (fun _ => False) := by
  refine Met.ofW (cc := cX8_isSame) (maxL := 6) (ret := (some .boolean)) (by decide) rfl ?_
  intro p e s m args below meth c s₁ B hml hv
  obtain ⟨rfl, hP, hK, hZ⟩ := hv
  have hx := B.exec
  have hb := B.bytes
  have hr := B.returns
  have ht := tb_tl (atoms_spec (ws := wc yX8_isSame cX8_isSame 6 (some .boolean)) B.pre)
  have hown : s.vm.findClass RX8 = some m.cls := findClass_of_methodNamed B.named
  have hlocks := B.notSynchronized
  have hl := lv_entry [.ref (g 11 4), .ref (ak 2), .int 11, .int 17, .int d] (n := 6) (Nat.le_of_ble_eq_true rfl)
  rw [lg_entry_eq]
  generalize (lg_sl [.ref (g 11 4), .ref (ak 2), .int 11, .int 17, .int d] ++ List.replicate (6 - (lg_sl [.ref (g 11 4), .ref (ak 2), .int 11, .int 17, .int d]).length) Slot.unset).toArray = ls at hl ⊢
  have hl : lv_has ls 6 [(0, .ref (g 11 4)), (1, .ref (ak 2)), (2, .int 11), (3, .int 17), (4, .int d)] := hl
  refine lv_iload_n hx hb dX8_isSame_0 rfl (lv_at hl 3 rfl) ?_
  refine lv_iload_n hx hb dX8_isSame_1 rfl (lv_at hl 2 rfl) ?_
  refine lv_isub hx hb dX8_isSame_2 ?_
  refine lv_topi (fun v1 ev1 => ?_)
  obtain rfl : 6 = v1 := (ev1.trans (by decide)).symm
  refine lv_iload hx hb dX8_isSame_3 (lv_at hl 4 rfl) ?_
  refine lv_aload_n hx hb dX8_isSame_5 rfl (lv_at hl 0 rfl) ?_
  have i_8_5 : 0 ≤ (iv 8 5).toInt ∧ (iv 8 5).toInt ≤ 200 := hI.1 8 5
  refine gX_8_5 hx hb ht hown hK hP m_235 (v := (iv 8 5)) rfl dX8_isSame_6 ?_
  refine lv_isub hx hb dX8_isSame_9 ?_
  refine lv_topi (fun v2 ev2 => ?_)
  have tv2 := z_sub ev2 (rfl : (d).toInt = _) (rfl : ((iv 8 5)).toInt = _) (by omega) (by omega)
  refine lv_icmp_eq (tgt := 15) hx hb dX8_isSame_10 (by decide) (fun c3 => ?_) (fun c3 => ?_)
  · have fc3 := z_eq (by decide : (6 : Int32).toInt = 6) (rfl : (v2).toInt = _) c3
    refine lv_iconst (v := 0) hx hb dX8_isSame_15 (by decide) ?_
    refine lv_istore (lv' := [(5, .int 0), (0, .ref (g 11 4)), (1, .ref (ak 2)), (2, .int 11), (3, .int 17), (4, .int d)]) hx hb dX8_isSame_16 hl (by decide) rfl (fun ls hl => ?_)
    refine lv_iload hx hb dX8_isSame_18 (lv_at hl 0 rfl) ?_
    refine lv_iload_n hx hb dX8_isSame_20 rfl (lv_at hl 4 rfl) ?_
    refine lv_iload_n hx hb dX8_isSame_21 rfl (lv_at hl 3 rfl) ?_
    refine lv_isub hx hb dX8_isSame_22 ?_
    refine lv_topi (fun v4 ev4 => ?_)
    obtain rfl : 6 = v4 := (ev4.trans (by decide)).symm
    refine lv_icmp_ge (tgt := 57) hx hb dX8_isSame_23 (by decide) (fun c5 => ?_) (fun c5 => ?_)
    · exact absurd c5 (by decide)
    · skip
      refine lv_aload_n hx hb dX8_isSame_26 rfl (lv_at hl 2 rfl) ?_
      refine lv_iload_n hx hb dX8_isSame_27 rfl (lv_at hl 3 rfl) ?_
      refine lv_iload hx hb dX8_isSame_28 (lv_at hl 0 rfl) ?_
      refine lv_iadd hx hb dX8_isSame_30 ?_
      refine lv_topi (fun v6 ev6 => ?_)
      obtain rfl : 11 = v6 := (ev6.trans (by decide)).symm
      refine vp_callSi (W.runV (As := [.int 11]) (rest := []) ⟨hx, hb, hml, hown, ht⟩ (c_J0_charAt_5068e_2 l dC dI ak av 11 ⟨by decide, by decide⟩) (kV 1 ht m_715 m_716 m_717 m_91 m_718 rfl rfl hd_J0_charAt_5068e_v ⟨Nat.le_of_ble_eq_true rfl, Nat.le_of_ble_eq_true rfl⟩) (vRZ noP (hK.sub (tys' := []) [] rfl) hZ (vk_recv hZ.1.2.2.2.2.2 (i := 2) (by decide) va_S.rf)) rfl rfl hl.1 rfl (lv_room (Nat.le_of_ble_eq_true rfl)) dX8_isSame_31 ⟨Nat.le_of_ble_eq_true rfl, Nat.le_of_ble_eq_true rfl⟩) (fun r7 hr7 => ?_)
      obtain rfl : 109 = r7 := (hr7.trans (by decide)).symm
      refine lv_aload_n hx hb dX8_isSame_34 rfl (lv_at hl 1 rfl) ?_
      refine gX_8_1 hx hb ht hown hK hP m_229 dX8_isSame_35 ?_
      refine lv_aload_n hx hb dX8_isSame_38 rfl (lv_at hl 1 rfl) ?_
      refine gX_8_5 hx hb ht hown hK hP m_235 (v := (iv 8 5)) rfl dX8_isSame_39 ?_
      refine lv_iload hx hb dX8_isSame_42 (lv_at hl 0 rfl) ?_
      refine lv_iadd hx hb dX8_isSame_44 ?_
      refine lv_topi (fun v8 ev8 => ?_)
      have tv8 := z_add ev8 (rfl : ((iv 8 5)).toInt = _) (by decide : (0 : Int32).toInt = 0) (by omega) (by omega)
      have : 0 ≤ (v8 : Int32).toInt ∧ (v8 : Int32).toInt ≤ 199 := ⟨by omega, by omega⟩
      refine lX_8_1 hx hb hK hP (f := (fa 8 1)) rfl (vp_in_iff.mpr ⟨by omega, by omega⟩) dX8_isSame_45 ?_
      refine lv_topi (fun v9 ev9 => ?_)
      refine lv_icmp_eq (tgt := 51) hx hb dX8_isSame_46 (by decide) (fun c10 => ?_) (fun c10 => ?_)
      · have fc10 := z_eq (by decide : (109 : Int32).toInt = 109) (rfl : (v9).toInt = _) c10
        refine lv_iinc (v := 1) (lv' := [(5, .int 1), (0, .ref (g 11 4)), (1, .ref (ak 2)), (2, .int 11), (3, .int 17), (4, .int d)]) hx hb dX8_isSame_51 hl (k := 0) rfl (by decide) (by decide) rfl (fun ls hl => ?_)
        refine lv_goto (tgt := 18) hx hb dX8_isSame_54 (by decide) ?_
        refine lv_iload hx hb dX8_isSame_18 (lv_at hl 0 rfl) ?_
        refine lv_iload_n hx hb dX8_isSame_20 rfl (lv_at hl 4 rfl) ?_
        refine lv_iload_n hx hb dX8_isSame_21 rfl (lv_at hl 3 rfl) ?_
        refine lv_isub hx hb dX8_isSame_22 ?_
        refine lv_topi (fun v11 ev11 => ?_)
        obtain rfl : 6 = v11 := (ev11.trans (by decide)).symm
        refine lv_icmp_ge (tgt := 57) hx hb dX8_isSame_23 (by decide) (fun c12 => ?_) (fun c12 => ?_)
        · exact absurd c12 (by decide)
        · skip
          refine lv_aload_n hx hb dX8_isSame_26 rfl (lv_at hl 2 rfl) ?_
          refine lv_iload_n hx hb dX8_isSame_27 rfl (lv_at hl 3 rfl) ?_
          refine lv_iload hx hb dX8_isSame_28 (lv_at hl 0 rfl) ?_
          refine lv_iadd hx hb dX8_isSame_30 ?_
          refine lv_topi (fun v13 ev13 => ?_)
          obtain rfl : 12 = v13 := (ev13.trans (by decide)).symm
          refine vp_callSi (W.runV (As := [.int 12]) (rest := []) ⟨hx, hb, hml, hown, ht⟩ (c_J0_charAt_5068e_2 l dC dI ak av 12 ⟨by decide, by decide⟩) (kV 1 ht m_715 m_716 m_717 m_91 m_718 rfl rfl hd_J0_charAt_5068e_v ⟨Nat.le_of_ble_eq_true rfl, Nat.le_of_ble_eq_true rfl⟩) (vRZ noP (hK.sub (tys' := []) [] rfl) hZ (vk_recv hZ.1.2.2.2.2.2 (i := 2) (by decide) va_S.rf)) rfl rfl hl.1 rfl (lv_room (Nat.le_of_ble_eq_true rfl)) dX8_isSame_31 ⟨Nat.le_of_ble_eq_true rfl, Nat.le_of_ble_eq_true rfl⟩) (fun r14 hr14 => ?_)
          obtain rfl : 105 = r14 := (hr14.trans (by decide)).symm
          refine lv_aload_n hx hb dX8_isSame_34 rfl (lv_at hl 1 rfl) ?_
          refine gX_8_1 hx hb ht hown hK hP m_229 dX8_isSame_35 ?_
          refine lv_aload_n hx hb dX8_isSame_38 rfl (lv_at hl 1 rfl) ?_
          refine gX_8_5 hx hb ht hown hK hP m_235 (v := (iv 8 5)) rfl dX8_isSame_39 ?_
          refine lv_iload hx hb dX8_isSame_42 (lv_at hl 0 rfl) ?_
          refine lv_iadd hx hb dX8_isSame_44 ?_
          refine lv_topi (fun v15 ev15 => ?_)
          have tv15 := z_add ev15 (rfl : ((iv 8 5)).toInt = _) (by decide : (1 : Int32).toInt = 1) (by omega) (by omega)
          have : 0 ≤ (v15 : Int32).toInt ∧ (v15 : Int32).toInt ≤ 199 := ⟨by omega, by omega⟩
          refine lX_8_1 hx hb hK hP (f := (fa 8 1)) rfl (vp_in_iff.mpr ⟨by omega, by omega⟩) dX8_isSame_45 ?_
          refine lv_topi (fun v16 ev16 => ?_)
          refine lv_icmp_eq (tgt := 51) hx hb dX8_isSame_46 (by decide) (fun c17 => ?_) (fun c17 => ?_)
          · have fc17 := z_eq (by decide : (105 : Int32).toInt = 105) (rfl : (v16).toInt = _) c17
            refine lv_iinc (v := 2) (lv' := [(5, .int 2), (0, .ref (g 11 4)), (1, .ref (ak 2)), (2, .int 11), (3, .int 17), (4, .int d)]) hx hb dX8_isSame_51 hl (k := 0) rfl (by decide) (by decide) rfl (fun ls hl => ?_)
            refine lv_goto (tgt := 18) hx hb dX8_isSame_54 (by decide) ?_
            refine lv_iload hx hb dX8_isSame_18 (lv_at hl 0 rfl) ?_
            refine lv_iload_n hx hb dX8_isSame_20 rfl (lv_at hl 4 rfl) ?_
            refine lv_iload_n hx hb dX8_isSame_21 rfl (lv_at hl 3 rfl) ?_
            refine lv_isub hx hb dX8_isSame_22 ?_
            refine lv_topi (fun v18 ev18 => ?_)
            obtain rfl : 6 = v18 := (ev18.trans (by decide)).symm
            refine lv_icmp_ge (tgt := 57) hx hb dX8_isSame_23 (by decide) (fun c19 => ?_) (fun c19 => ?_)
            · exact absurd c19 (by decide)
            · skip
              refine lv_aload_n hx hb dX8_isSame_26 rfl (lv_at hl 2 rfl) ?_
              refine lv_iload_n hx hb dX8_isSame_27 rfl (lv_at hl 3 rfl) ?_
              refine lv_iload hx hb dX8_isSame_28 (lv_at hl 0 rfl) ?_
              refine lv_iadd hx hb dX8_isSame_30 ?_
              refine lv_topi (fun v20 ev20 => ?_)
              obtain rfl : 13 = v20 := (ev20.trans (by decide)).symm
              refine vp_callSi (W.runV (As := [.int 13]) (rest := []) ⟨hx, hb, hml, hown, ht⟩ (c_J0_charAt_5068e_2 l dC dI ak av 13 ⟨by decide, by decide⟩) (kV 1 ht m_715 m_716 m_717 m_91 m_718 rfl rfl hd_J0_charAt_5068e_v ⟨Nat.le_of_ble_eq_true rfl, Nat.le_of_ble_eq_true rfl⟩) (vRZ noP (hK.sub (tys' := []) [] rfl) hZ (vk_recv hZ.1.2.2.2.2.2 (i := 2) (by decide) va_S.rf)) rfl rfl hl.1 rfl (lv_room (Nat.le_of_ble_eq_true rfl)) dX8_isSame_31 ⟨Nat.le_of_ble_eq_true rfl, Nat.le_of_ble_eq_true rfl⟩) (fun r21 hr21 => ?_)
              obtain rfl : 100 = r21 := (hr21.trans (by decide)).symm
              refine lv_aload_n hx hb dX8_isSame_34 rfl (lv_at hl 1 rfl) ?_
              refine gX_8_1 hx hb ht hown hK hP m_229 dX8_isSame_35 ?_
              refine lv_aload_n hx hb dX8_isSame_38 rfl (lv_at hl 1 rfl) ?_
              refine gX_8_5 hx hb ht hown hK hP m_235 (v := (iv 8 5)) rfl dX8_isSame_39 ?_
              refine lv_iload hx hb dX8_isSame_42 (lv_at hl 0 rfl) ?_
              refine lv_iadd hx hb dX8_isSame_44 ?_
              refine lv_topi (fun v22 ev22 => ?_)
              have tv22 := z_add ev22 (rfl : ((iv 8 5)).toInt = _) (by decide : (2 : Int32).toInt = 2) (by omega) (by omega)
              have : 0 ≤ (v22 : Int32).toInt ∧ (v22 : Int32).toInt ≤ 199 := ⟨by omega, by omega⟩
              refine lX_8_1 hx hb hK hP (f := (fa 8 1)) rfl (vp_in_iff.mpr ⟨by omega, by omega⟩) dX8_isSame_45 ?_
              refine lv_topi (fun v23 ev23 => ?_)
              refine lv_icmp_eq (tgt := 51) hx hb dX8_isSame_46 (by decide) (fun c24 => ?_) (fun c24 => ?_)
              · have fc24 := z_eq (by decide : (100 : Int32).toInt = 100) (rfl : (v23).toInt = _) c24
                refine lv_iinc (v := 3) (lv' := [(5, .int 3), (0, .ref (g 11 4)), (1, .ref (ak 2)), (2, .int 11), (3, .int 17), (4, .int d)]) hx hb dX8_isSame_51 hl (k := 0) rfl (by decide) (by decide) rfl (fun ls hl => ?_)
                refine lv_goto (tgt := 18) hx hb dX8_isSame_54 (by decide) ?_
                refine lv_iload hx hb dX8_isSame_18 (lv_at hl 0 rfl) ?_
                refine lv_iload_n hx hb dX8_isSame_20 rfl (lv_at hl 4 rfl) ?_
                refine lv_iload_n hx hb dX8_isSame_21 rfl (lv_at hl 3 rfl) ?_
                refine lv_isub hx hb dX8_isSame_22 ?_
                refine lv_topi (fun v25 ev25 => ?_)
                obtain rfl : 6 = v25 := (ev25.trans (by decide)).symm
                refine lv_icmp_ge (tgt := 57) hx hb dX8_isSame_23 (by decide) (fun c26 => ?_) (fun c26 => ?_)
                · exact absurd c26 (by decide)
                · skip
                  refine lv_aload_n hx hb dX8_isSame_26 rfl (lv_at hl 2 rfl) ?_
                  refine lv_iload_n hx hb dX8_isSame_27 rfl (lv_at hl 3 rfl) ?_
                  refine lv_iload hx hb dX8_isSame_28 (lv_at hl 0 rfl) ?_
                  refine lv_iadd hx hb dX8_isSame_30 ?_
                  refine lv_topi (fun v27 ev27 => ?_)
                  obtain rfl : 14 = v27 := (ev27.trans (by decide)).symm
                  refine vp_callSi (W.runV (As := [.int 14]) (rest := []) ⟨hx, hb, hml, hown, ht⟩ (c_J0_charAt_5068e_2 l dC dI ak av 14 ⟨by decide, by decide⟩) (kV 1 ht m_715 m_716 m_717 m_91 m_718 rfl rfl hd_J0_charAt_5068e_v ⟨Nat.le_of_ble_eq_true rfl, Nat.le_of_ble_eq_true rfl⟩) (vRZ noP (hK.sub (tys' := []) [] rfl) hZ (vk_recv hZ.1.2.2.2.2.2 (i := 2) (by decide) va_S.rf)) rfl rfl hl.1 rfl (lv_room (Nat.le_of_ble_eq_true rfl)) dX8_isSame_31 ⟨Nat.le_of_ble_eq_true rfl, Nat.le_of_ble_eq_true rfl⟩) (fun r28 hr28 => ?_)
                  obtain rfl : 100 = r28 := (hr28.trans (by decide)).symm
                  refine lv_aload_n hx hb dX8_isSame_34 rfl (lv_at hl 1 rfl) ?_
                  refine gX_8_1 hx hb ht hown hK hP m_229 dX8_isSame_35 ?_
                  refine lv_aload_n hx hb dX8_isSame_38 rfl (lv_at hl 1 rfl) ?_
                  refine gX_8_5 hx hb ht hown hK hP m_235 (v := (iv 8 5)) rfl dX8_isSame_39 ?_
                  refine lv_iload hx hb dX8_isSame_42 (lv_at hl 0 rfl) ?_
                  refine lv_iadd hx hb dX8_isSame_44 ?_
                  refine lv_topi (fun v29 ev29 => ?_)
                  have tv29 := z_add ev29 (rfl : ((iv 8 5)).toInt = _) (by decide : (3 : Int32).toInt = 3) (by omega) (by omega)
                  have : 0 ≤ (v29 : Int32).toInt ∧ (v29 : Int32).toInt ≤ 199 := ⟨by omega, by omega⟩
                  refine lX_8_1 hx hb hK hP (f := (fa 8 1)) rfl (vp_in_iff.mpr ⟨by omega, by omega⟩) dX8_isSame_45 ?_
                  refine lv_topi (fun v30 ev30 => ?_)
                  refine lv_icmp_eq (tgt := 51) hx hb dX8_isSame_46 (by decide) (fun c31 => ?_) (fun c31 => ?_)
                  · have fc31 := z_eq (by decide : (100 : Int32).toInt = 100) (rfl : (v30).toInt = _) c31
                    refine lv_iinc (v := 4) (lv' := [(5, .int 4), (0, .ref (g 11 4)), (1, .ref (ak 2)), (2, .int 11), (3, .int 17), (4, .int d)]) hx hb dX8_isSame_51 hl (k := 0) rfl (by decide) (by decide) rfl (fun ls hl => ?_)
                    refine lv_goto (tgt := 18) hx hb dX8_isSame_54 (by decide) ?_
                    refine lv_iload hx hb dX8_isSame_18 (lv_at hl 0 rfl) ?_
                    refine lv_iload_n hx hb dX8_isSame_20 rfl (lv_at hl 4 rfl) ?_
                    refine lv_iload_n hx hb dX8_isSame_21 rfl (lv_at hl 3 rfl) ?_
                    refine lv_isub hx hb dX8_isSame_22 ?_
                    refine lv_topi (fun v32 ev32 => ?_)
                    obtain rfl : 6 = v32 := (ev32.trans (by decide)).symm
                    refine lv_icmp_ge (tgt := 57) hx hb dX8_isSame_23 (by decide) (fun c33 => ?_) (fun c33 => ?_)
                    · exact absurd c33 (by decide)
                    · skip
                      refine lv_aload_n hx hb dX8_isSame_26 rfl (lv_at hl 2 rfl) ?_
                      refine lv_iload_n hx hb dX8_isSame_27 rfl (lv_at hl 3 rfl) ?_
                      refine lv_iload hx hb dX8_isSame_28 (lv_at hl 0 rfl) ?_
                      refine lv_iadd hx hb dX8_isSame_30 ?_
                      refine lv_topi (fun v34 ev34 => ?_)
                      obtain rfl : 15 = v34 := (ev34.trans (by decide)).symm
                      refine vp_callSi (W.runV (As := [.int 15]) (rest := []) ⟨hx, hb, hml, hown, ht⟩ (c_J0_charAt_5068e_2 l dC dI ak av 15 ⟨by decide, by decide⟩) (kV 1 ht m_715 m_716 m_717 m_91 m_718 rfl rfl hd_J0_charAt_5068e_v ⟨Nat.le_of_ble_eq_true rfl, Nat.le_of_ble_eq_true rfl⟩) (vRZ noP (hK.sub (tys' := []) [] rfl) hZ (vk_recv hZ.1.2.2.2.2.2 (i := 2) (by decide) va_S.rf)) rfl rfl hl.1 rfl (lv_room (Nat.le_of_ble_eq_true rfl)) dX8_isSame_31 ⟨Nat.le_of_ble_eq_true rfl, Nat.le_of_ble_eq_true rfl⟩) (fun r35 hr35 => ?_)
                      obtain rfl : 108 = r35 := (hr35.trans (by decide)).symm
                      refine lv_aload_n hx hb dX8_isSame_34 rfl (lv_at hl 1 rfl) ?_
                      refine gX_8_1 hx hb ht hown hK hP m_229 dX8_isSame_35 ?_
                      refine lv_aload_n hx hb dX8_isSame_38 rfl (lv_at hl 1 rfl) ?_
                      refine gX_8_5 hx hb ht hown hK hP m_235 (v := (iv 8 5)) rfl dX8_isSame_39 ?_
                      refine lv_iload hx hb dX8_isSame_42 (lv_at hl 0 rfl) ?_
                      refine lv_iadd hx hb dX8_isSame_44 ?_
                      refine lv_topi (fun v36 ev36 => ?_)
                      have tv36 := z_add ev36 (rfl : ((iv 8 5)).toInt = _) (by decide : (4 : Int32).toInt = 4) (by omega) (by omega)
                      have : 0 ≤ (v36 : Int32).toInt ∧ (v36 : Int32).toInt ≤ 199 := ⟨by omega, by omega⟩
                      refine lX_8_1 hx hb hK hP (f := (fa 8 1)) rfl (vp_in_iff.mpr ⟨by omega, by omega⟩) dX8_isSame_45 ?_
                      refine lv_topi (fun v37 ev37 => ?_)
                      refine lv_icmp_eq (tgt := 51) hx hb dX8_isSame_46 (by decide) (fun c38 => ?_) (fun c38 => ?_)
                      · have fc38 := z_eq (by decide : (108 : Int32).toInt = 108) (rfl : (v37).toInt = _) c38
                        refine lv_iinc (v := 5) (lv' := [(5, .int 5), (0, .ref (g 11 4)), (1, .ref (ak 2)), (2, .int 11), (3, .int 17), (4, .int d)]) hx hb dX8_isSame_51 hl (k := 0) rfl (by decide) (by decide) rfl (fun ls hl => ?_)
                        refine lv_goto (tgt := 18) hx hb dX8_isSame_54 (by decide) ?_
                        refine lv_iload hx hb dX8_isSame_18 (lv_at hl 0 rfl) ?_
                        refine lv_iload_n hx hb dX8_isSame_20 rfl (lv_at hl 4 rfl) ?_
                        refine lv_iload_n hx hb dX8_isSame_21 rfl (lv_at hl 3 rfl) ?_
                        refine lv_isub hx hb dX8_isSame_22 ?_
                        refine lv_topi (fun v39 ev39 => ?_)
                        obtain rfl : 6 = v39 := (ev39.trans (by decide)).symm
                        refine lv_icmp_ge (tgt := 57) hx hb dX8_isSame_23 (by decide) (fun c40 => ?_) (fun c40 => ?_)
                        · exact absurd c40 (by decide)
                        · skip
                          refine lv_aload_n hx hb dX8_isSame_26 rfl (lv_at hl 2 rfl) ?_
                          refine lv_iload_n hx hb dX8_isSame_27 rfl (lv_at hl 3 rfl) ?_
                          refine lv_iload hx hb dX8_isSame_28 (lv_at hl 0 rfl) ?_
                          refine lv_iadd hx hb dX8_isSame_30 ?_
                          refine lv_topi (fun v41 ev41 => ?_)
                          obtain rfl : 16 = v41 := (ev41.trans (by decide)).symm
                          refine vp_callSi (W.runV (As := [.int 16]) (rest := []) ⟨hx, hb, hml, hown, ht⟩ (c_J0_charAt_5068e_2 l dC dI ak av 16 ⟨by decide, by decide⟩) (kV 1 ht m_715 m_716 m_717 m_91 m_718 rfl rfl hd_J0_charAt_5068e_v ⟨Nat.le_of_ble_eq_true rfl, Nat.le_of_ble_eq_true rfl⟩) (vRZ noP (hK.sub (tys' := []) [] rfl) hZ (vk_recv hZ.1.2.2.2.2.2 (i := 2) (by decide) va_S.rf)) rfl rfl hl.1 rfl (lv_room (Nat.le_of_ble_eq_true rfl)) dX8_isSame_31 ⟨Nat.le_of_ble_eq_true rfl, Nat.le_of_ble_eq_true rfl⟩) (fun r42 hr42 => ?_)
                          obtain rfl : 101 = r42 := (hr42.trans (by decide)).symm
                          refine lv_aload_n hx hb dX8_isSame_34 rfl (lv_at hl 1 rfl) ?_
                          refine gX_8_1 hx hb ht hown hK hP m_229 dX8_isSame_35 ?_
                          refine lv_aload_n hx hb dX8_isSame_38 rfl (lv_at hl 1 rfl) ?_
                          refine gX_8_5 hx hb ht hown hK hP m_235 (v := (iv 8 5)) rfl dX8_isSame_39 ?_
                          refine lv_iload hx hb dX8_isSame_42 (lv_at hl 0 rfl) ?_
                          refine lv_iadd hx hb dX8_isSame_44 ?_
                          refine lv_topi (fun v43 ev43 => ?_)
                          have tv43 := z_add ev43 (rfl : ((iv 8 5)).toInt = _) (by decide : (5 : Int32).toInt = 5) (by omega) (by omega)
                          have : 0 ≤ (v43 : Int32).toInt ∧ (v43 : Int32).toInt ≤ 199 := ⟨by omega, by omega⟩
                          refine lX_8_1 hx hb hK hP (f := (fa 8 1)) rfl (vp_in_iff.mpr ⟨by omega, by omega⟩) dX8_isSame_45 ?_
                          refine lv_topi (fun v44 ev44 => ?_)
                          refine lv_icmp_eq (tgt := 51) hx hb dX8_isSame_46 (by decide) (fun c45 => ?_) (fun c45 => ?_)
                          · have fc45 := z_eq (by decide : (101 : Int32).toInt = 101) (rfl : (v44).toInt = _) c45
                            refine lv_iinc (v := 6) (lv' := [(5, .int 6), (0, .ref (g 11 4)), (1, .ref (ak 2)), (2, .int 11), (3, .int 17), (4, .int d)]) hx hb dX8_isSame_51 hl (k := 0) rfl (by decide) (by decide) rfl (fun ls hl => ?_)
                            refine lv_goto (tgt := 18) hx hb dX8_isSame_54 (by decide) ?_
                            refine lv_iload hx hb dX8_isSame_18 (lv_at hl 0 rfl) ?_
                            refine lv_iload_n hx hb dX8_isSame_20 rfl (lv_at hl 4 rfl) ?_
                            refine lv_iload_n hx hb dX8_isSame_21 rfl (lv_at hl 3 rfl) ?_
                            refine lv_isub hx hb dX8_isSame_22 ?_
                            refine lv_topi (fun v46 ev46 => ?_)
                            obtain rfl : 6 = v46 := (ev46.trans (by decide)).symm
                            refine lv_icmp_ge (tgt := 57) hx hb dX8_isSame_23 (by decide) (fun c47 => ?_) (fun c47 => ?_)
                            · skip
                              refine lv_iconst (v := 1) hx hb dX8_isSame_57 (by decide) ?_
                              have : (1 : Int32).toInt = 1 := (by decide)
                              exact W.zret (v := 1) hx hb hr rfl (fun t ht9 hW => ⟨1, rfl, ⟨⟨by decide, by decide⟩, (show (((1 : Int32).toInt = 1 ∧ w_middle (fun j => ((fa 8 1) j).toInt) ((iv 8 5) : Int32).toInt (d).toInt) ∨ ((1 : Int32).toInt = 0 ∧ ¬ w_middle (fun j => ((fa 8 1) j).toInt) ((iv 8 5) : Int32).toInt (d).toInt)) from (by have q0 := congrArg Int32.toInt (ev9.trans (congrArg (fa 8 1) (show (v8 : Int32).toNatClampNeg = ((iv 8 5).toInt).toNat + 0 from (by show (v8 : Int32).toInt.toNat = _; omega)))); have q1 := congrArg Int32.toInt (ev16.trans (congrArg (fa 8 1) (show (v15 : Int32).toNatClampNeg = ((iv 8 5).toInt).toNat + 1 from (by show (v15 : Int32).toInt.toNat = _; omega)))); have q2 := congrArg Int32.toInt (ev23.trans (congrArg (fa 8 1) (show (v22 : Int32).toNatClampNeg = ((iv 8 5).toInt).toNat + 2 from (by show (v22 : Int32).toInt.toNat = _; omega)))); have q3 := congrArg Int32.toInt (ev30.trans (congrArg (fa 8 1) (show (v29 : Int32).toNatClampNeg = ((iv 8 5).toInt).toNat + 3 from (by show (v29 : Int32).toInt.toNat = _; omega)))); have q4 := congrArg Int32.toInt (ev37.trans (congrArg (fa 8 1) (show (v36 : Int32).toNatClampNeg = ((iv 8 5).toInt).toNat + 4 from (by show (v36 : Int32).toInt.toNat = _; omega)))); have q5 := congrArg Int32.toInt (ev44.trans (congrArg (fa 8 1) (show (v43 : Int32).toNatClampNeg = ((iv 8 5).toInt).toNat + 5 from (by show (v43 : Int32).toInt.toNat = _; omega)))); exact Or.inl ⟨by omega, (show d.toInt - (iv 8 5).toInt = 6 ∧ (fa 8 1 (((iv 8 5).toInt).toNat + 0)).toInt = 109 ∧ (fa 8 1 (((iv 8 5).toInt).toNat + 1)).toInt = 105 ∧ (fa 8 1 (((iv 8 5).toInt).toNat + 2)).toInt = 100 ∧ (fa 8 1 (((iv 8 5).toInt).toNat + 3)).toInt = 100 ∧ (fa 8 1 (((iv 8 5).toInt).toNat + 4)).toInt = 108 ∧ (fa 8 1 (((iv 8 5).toInt).toNat + 5)).toInt = 101 from ⟨by omega, by omega, by omega, by omega, by omega, by omega, by omega⟩)⟩))⟩, ht9⟩) (fun q hq => by cases hq) dX8_isSame_58
                            · exact absurd c47 (by decide)
                          · have fc45 := z_ne (by decide : (101 : Int32).toInt = 101) (rfl : (v44).toInt = _) c45
                            refine lv_iconst (v := 0) hx hb dX8_isSame_49 (by decide) ?_
                            have : (0 : Int32).toInt = 0 := (by decide)
                            exact W.zret (v := 0) hx hb hr rfl (fun t ht9 hW => ⟨0, rfl, ⟨⟨by decide, by decide⟩, (show (((0 : Int32).toInt = 1 ∧ w_middle (fun j => ((fa 8 1) j).toInt) ((iv 8 5) : Int32).toInt (d).toInt) ∨ ((0 : Int32).toInt = 0 ∧ ¬ w_middle (fun j => ((fa 8 1) j).toInt) ((iv 8 5) : Int32).toInt (d).toInt)) from (by have q0 := congrArg Int32.toInt (ev9.trans (congrArg (fa 8 1) (show (v8 : Int32).toNatClampNeg = ((iv 8 5).toInt).toNat + 0 from (by show (v8 : Int32).toInt.toNat = _; omega)))); have q1 := congrArg Int32.toInt (ev16.trans (congrArg (fa 8 1) (show (v15 : Int32).toNatClampNeg = ((iv 8 5).toInt).toNat + 1 from (by show (v15 : Int32).toInt.toNat = _; omega)))); have q2 := congrArg Int32.toInt (ev23.trans (congrArg (fa 8 1) (show (v22 : Int32).toNatClampNeg = ((iv 8 5).toInt).toNat + 2 from (by show (v22 : Int32).toInt.toNat = _; omega)))); have q3 := congrArg Int32.toInt (ev30.trans (congrArg (fa 8 1) (show (v29 : Int32).toNatClampNeg = ((iv 8 5).toInt).toNat + 3 from (by show (v29 : Int32).toInt.toNat = _; omega)))); have q4 := congrArg Int32.toInt (ev37.trans (congrArg (fa 8 1) (show (v36 : Int32).toNatClampNeg = ((iv 8 5).toInt).toNat + 4 from (by show (v36 : Int32).toInt.toNat = _; omega)))); have q5 := congrArg Int32.toInt (ev44.trans (congrArg (fa 8 1) (show (v43 : Int32).toNatClampNeg = ((iv 8 5).toInt).toNat + 5 from (by show (v43 : Int32).toInt.toNat = _; omega)))); exact Or.inr ⟨by omega, fun h9 => (by have h8 : d.toInt - (iv 8 5).toInt = 6 ∧ (fa 8 1 (((iv 8 5).toInt).toNat + 0)).toInt = 109 ∧ (fa 8 1 (((iv 8 5).toInt).toNat + 1)).toInt = 105 ∧ (fa 8 1 (((iv 8 5).toInt).toNat + 2)).toInt = 100 ∧ (fa 8 1 (((iv 8 5).toInt).toNat + 3)).toInt = 100 ∧ (fa 8 1 (((iv 8 5).toInt).toNat + 4)).toInt = 108 ∧ (fa 8 1 (((iv 8 5).toInt).toNat + 5)).toInt = 101 := h9; omega)⟩))⟩, ht9⟩) (fun q hq => by cases hq) dX8_isSame_50
                      · have fc38 := z_ne (by decide : (108 : Int32).toInt = 108) (rfl : (v37).toInt = _) c38
                        refine lv_iconst (v := 0) hx hb dX8_isSame_49 (by decide) ?_
                        have : (0 : Int32).toInt = 0 := (by decide)
                        exact W.zret (v := 0) hx hb hr rfl (fun t ht9 hW => ⟨0, rfl, ⟨⟨by decide, by decide⟩, (show (((0 : Int32).toInt = 1 ∧ w_middle (fun j => ((fa 8 1) j).toInt) ((iv 8 5) : Int32).toInt (d).toInt) ∨ ((0 : Int32).toInt = 0 ∧ ¬ w_middle (fun j => ((fa 8 1) j).toInt) ((iv 8 5) : Int32).toInt (d).toInt)) from (by have q0 := congrArg Int32.toInt (ev9.trans (congrArg (fa 8 1) (show (v8 : Int32).toNatClampNeg = ((iv 8 5).toInt).toNat + 0 from (by show (v8 : Int32).toInt.toNat = _; omega)))); have q1 := congrArg Int32.toInt (ev16.trans (congrArg (fa 8 1) (show (v15 : Int32).toNatClampNeg = ((iv 8 5).toInt).toNat + 1 from (by show (v15 : Int32).toInt.toNat = _; omega)))); have q2 := congrArg Int32.toInt (ev23.trans (congrArg (fa 8 1) (show (v22 : Int32).toNatClampNeg = ((iv 8 5).toInt).toNat + 2 from (by show (v22 : Int32).toInt.toNat = _; omega)))); have q3 := congrArg Int32.toInt (ev30.trans (congrArg (fa 8 1) (show (v29 : Int32).toNatClampNeg = ((iv 8 5).toInt).toNat + 3 from (by show (v29 : Int32).toInt.toNat = _; omega)))); have q4 := congrArg Int32.toInt (ev37.trans (congrArg (fa 8 1) (show (v36 : Int32).toNatClampNeg = ((iv 8 5).toInt).toNat + 4 from (by show (v36 : Int32).toInt.toNat = _; omega)))); exact Or.inr ⟨by omega, fun h9 => (by have h8 : d.toInt - (iv 8 5).toInt = 6 ∧ (fa 8 1 (((iv 8 5).toInt).toNat + 0)).toInt = 109 ∧ (fa 8 1 (((iv 8 5).toInt).toNat + 1)).toInt = 105 ∧ (fa 8 1 (((iv 8 5).toInt).toNat + 2)).toInt = 100 ∧ (fa 8 1 (((iv 8 5).toInt).toNat + 3)).toInt = 100 ∧ (fa 8 1 (((iv 8 5).toInt).toNat + 4)).toInt = 108 ∧ (fa 8 1 (((iv 8 5).toInt).toNat + 5)).toInt = 101 := h9; omega)⟩))⟩, ht9⟩) (fun q hq => by cases hq) dX8_isSame_50
                  · have fc31 := z_ne (by decide : (100 : Int32).toInt = 100) (rfl : (v30).toInt = _) c31
                    refine lv_iconst (v := 0) hx hb dX8_isSame_49 (by decide) ?_
                    have : (0 : Int32).toInt = 0 := (by decide)
                    exact W.zret (v := 0) hx hb hr rfl (fun t ht9 hW => ⟨0, rfl, ⟨⟨by decide, by decide⟩, (show (((0 : Int32).toInt = 1 ∧ w_middle (fun j => ((fa 8 1) j).toInt) ((iv 8 5) : Int32).toInt (d).toInt) ∨ ((0 : Int32).toInt = 0 ∧ ¬ w_middle (fun j => ((fa 8 1) j).toInt) ((iv 8 5) : Int32).toInt (d).toInt)) from (by have q0 := congrArg Int32.toInt (ev9.trans (congrArg (fa 8 1) (show (v8 : Int32).toNatClampNeg = ((iv 8 5).toInt).toNat + 0 from (by show (v8 : Int32).toInt.toNat = _; omega)))); have q1 := congrArg Int32.toInt (ev16.trans (congrArg (fa 8 1) (show (v15 : Int32).toNatClampNeg = ((iv 8 5).toInt).toNat + 1 from (by show (v15 : Int32).toInt.toNat = _; omega)))); have q2 := congrArg Int32.toInt (ev23.trans (congrArg (fa 8 1) (show (v22 : Int32).toNatClampNeg = ((iv 8 5).toInt).toNat + 2 from (by show (v22 : Int32).toInt.toNat = _; omega)))); have q3 := congrArg Int32.toInt (ev30.trans (congrArg (fa 8 1) (show (v29 : Int32).toNatClampNeg = ((iv 8 5).toInt).toNat + 3 from (by show (v29 : Int32).toInt.toNat = _; omega)))); exact Or.inr ⟨by omega, fun h9 => (by have h8 : d.toInt - (iv 8 5).toInt = 6 ∧ (fa 8 1 (((iv 8 5).toInt).toNat + 0)).toInt = 109 ∧ (fa 8 1 (((iv 8 5).toInt).toNat + 1)).toInt = 105 ∧ (fa 8 1 (((iv 8 5).toInt).toNat + 2)).toInt = 100 ∧ (fa 8 1 (((iv 8 5).toInt).toNat + 3)).toInt = 100 ∧ (fa 8 1 (((iv 8 5).toInt).toNat + 4)).toInt = 108 ∧ (fa 8 1 (((iv 8 5).toInt).toNat + 5)).toInt = 101 := h9; omega)⟩))⟩, ht9⟩) (fun q hq => by cases hq) dX8_isSame_50
              · have fc24 := z_ne (by decide : (100 : Int32).toInt = 100) (rfl : (v23).toInt = _) c24
                refine lv_iconst (v := 0) hx hb dX8_isSame_49 (by decide) ?_
                have : (0 : Int32).toInt = 0 := (by decide)
                exact W.zret (v := 0) hx hb hr rfl (fun t ht9 hW => ⟨0, rfl, ⟨⟨by decide, by decide⟩, (show (((0 : Int32).toInt = 1 ∧ w_middle (fun j => ((fa 8 1) j).toInt) ((iv 8 5) : Int32).toInt (d).toInt) ∨ ((0 : Int32).toInt = 0 ∧ ¬ w_middle (fun j => ((fa 8 1) j).toInt) ((iv 8 5) : Int32).toInt (d).toInt)) from (by have q0 := congrArg Int32.toInt (ev9.trans (congrArg (fa 8 1) (show (v8 : Int32).toNatClampNeg = ((iv 8 5).toInt).toNat + 0 from (by show (v8 : Int32).toInt.toNat = _; omega)))); have q1 := congrArg Int32.toInt (ev16.trans (congrArg (fa 8 1) (show (v15 : Int32).toNatClampNeg = ((iv 8 5).toInt).toNat + 1 from (by show (v15 : Int32).toInt.toNat = _; omega)))); have q2 := congrArg Int32.toInt (ev23.trans (congrArg (fa 8 1) (show (v22 : Int32).toNatClampNeg = ((iv 8 5).toInt).toNat + 2 from (by show (v22 : Int32).toInt.toNat = _; omega)))); exact Or.inr ⟨by omega, fun h9 => (by have h8 : d.toInt - (iv 8 5).toInt = 6 ∧ (fa 8 1 (((iv 8 5).toInt).toNat + 0)).toInt = 109 ∧ (fa 8 1 (((iv 8 5).toInt).toNat + 1)).toInt = 105 ∧ (fa 8 1 (((iv 8 5).toInt).toNat + 2)).toInt = 100 ∧ (fa 8 1 (((iv 8 5).toInt).toNat + 3)).toInt = 100 ∧ (fa 8 1 (((iv 8 5).toInt).toNat + 4)).toInt = 108 ∧ (fa 8 1 (((iv 8 5).toInt).toNat + 5)).toInt = 101 := h9; omega)⟩))⟩, ht9⟩) (fun q hq => by cases hq) dX8_isSame_50
          · have fc17 := z_ne (by decide : (105 : Int32).toInt = 105) (rfl : (v16).toInt = _) c17
            refine lv_iconst (v := 0) hx hb dX8_isSame_49 (by decide) ?_
            have : (0 : Int32).toInt = 0 := (by decide)
            exact W.zret (v := 0) hx hb hr rfl (fun t ht9 hW => ⟨0, rfl, ⟨⟨by decide, by decide⟩, (show (((0 : Int32).toInt = 1 ∧ w_middle (fun j => ((fa 8 1) j).toInt) ((iv 8 5) : Int32).toInt (d).toInt) ∨ ((0 : Int32).toInt = 0 ∧ ¬ w_middle (fun j => ((fa 8 1) j).toInt) ((iv 8 5) : Int32).toInt (d).toInt)) from (by have q0 := congrArg Int32.toInt (ev9.trans (congrArg (fa 8 1) (show (v8 : Int32).toNatClampNeg = ((iv 8 5).toInt).toNat + 0 from (by show (v8 : Int32).toInt.toNat = _; omega)))); have q1 := congrArg Int32.toInt (ev16.trans (congrArg (fa 8 1) (show (v15 : Int32).toNatClampNeg = ((iv 8 5).toInt).toNat + 1 from (by show (v15 : Int32).toInt.toNat = _; omega)))); exact Or.inr ⟨by omega, fun h9 => (by have h8 : d.toInt - (iv 8 5).toInt = 6 ∧ (fa 8 1 (((iv 8 5).toInt).toNat + 0)).toInt = 109 ∧ (fa 8 1 (((iv 8 5).toInt).toNat + 1)).toInt = 105 ∧ (fa 8 1 (((iv 8 5).toInt).toNat + 2)).toInt = 100 ∧ (fa 8 1 (((iv 8 5).toInt).toNat + 3)).toInt = 100 ∧ (fa 8 1 (((iv 8 5).toInt).toNat + 4)).toInt = 108 ∧ (fa 8 1 (((iv 8 5).toInt).toNat + 5)).toInt = 101 := h9; omega)⟩))⟩, ht9⟩) (fun q hq => by cases hq) dX8_isSame_50
      · have fc10 := z_ne (by decide : (109 : Int32).toInt = 109) (rfl : (v9).toInt = _) c10
        refine lv_iconst (v := 0) hx hb dX8_isSame_49 (by decide) ?_
        have : (0 : Int32).toInt = 0 := (by decide)
        exact W.zret (v := 0) hx hb hr rfl (fun t ht9 hW => ⟨0, rfl, ⟨⟨by decide, by decide⟩, (show (((0 : Int32).toInt = 1 ∧ w_middle (fun j => ((fa 8 1) j).toInt) ((iv 8 5) : Int32).toInt (d).toInt) ∨ ((0 : Int32).toInt = 0 ∧ ¬ w_middle (fun j => ((fa 8 1) j).toInt) ((iv 8 5) : Int32).toInt (d).toInt)) from (by have q0 := congrArg Int32.toInt (ev9.trans (congrArg (fa 8 1) (show (v8 : Int32).toNatClampNeg = ((iv 8 5).toInt).toNat + 0 from (by show (v8 : Int32).toInt.toNat = _; omega)))); exact Or.inr ⟨by omega, fun h9 => (by have h8 : d.toInt - (iv 8 5).toInt = 6 ∧ (fa 8 1 (((iv 8 5).toInt).toNat + 0)).toInt = 109 ∧ (fa 8 1 (((iv 8 5).toInt).toNat + 1)).toInt = 105 ∧ (fa 8 1 (((iv 8 5).toInt).toNat + 2)).toInt = 100 ∧ (fa 8 1 (((iv 8 5).toInt).toNat + 3)).toInt = 100 ∧ (fa 8 1 (((iv 8 5).toInt).toNat + 4)).toInt = 108 ∧ (fa 8 1 (((iv 8 5).toInt).toNat + 5)).toInt = 101 := h9; omega)⟩))⟩, ht9⟩) (fun q hq => by cases hq) dX8_isSame_50
  · have fc3 := z_ne (by decide : (6 : Int32).toInt = 6) (rfl : (v2).toInt = _) c3
    refine lv_iconst (v := 0) hx hb dX8_isSame_13 (by decide) ?_
    have : (0 : Int32).toInt = 0 := (by decide)
    exact W.zret (v := 0) hx hb hr rfl (fun t ht9 hW => ⟨0, rfl, ⟨⟨by decide, by decide⟩, (show (((0 : Int32).toInt = 1 ∧ w_middle (fun j => ((fa 8 1) j).toInt) ((iv 8 5) : Int32).toInt (d).toInt) ∨ ((0 : Int32).toInt = 0 ∧ ¬ w_middle (fun j => ((fa 8 1) j).toInt) ((iv 8 5) : Int32).toInt (d).toInt)) from (by exact Or.inr ⟨by omega, fun h9 => (by have h8 : d.toInt - (iv 8 5).toInt = 6 ∧ (fa 8 1 (((iv 8 5).toInt).toNat + 0)).toInt = 109 ∧ (fa 8 1 (((iv 8 5).toInt).toNat + 1)).toInt = 105 ∧ (fa 8 1 (((iv 8 5).toInt).toNat + 2)).toInt = 100 ∧ (fa 8 1 (((iv 8 5).toInt).toNat + 3)).toInt = 100 ∧ (fa 8 1 (((iv 8 5).toInt).toNat + 4)).toInt = 108 ∧ (fa 8 1 (((iv 8 5).toInt).toNat + 5)).toInt = 101 := h9; omega)⟩))⟩, ht9⟩) (fun q hq => by cases hq) dX8_isSame_14
set_option maxHeartbeats 4000000 in
set_option maxRecDepth 100000 in
/-- X8_isSame -/
theorem c_X8_isSame_r3_0 (l : Launch) (dC : Nat → ClassId) (dI : Nat → Nat → Nat) (ak av : Nat → Nat) (h : Nat) (g : Nat → Nat → Nat) (ca : Nat → Nat → ClassId) (iv : Nat → Nat → Int32) (lv : Nat → Nat → Int64) (fa : Nat → Nat → Nat → Int32) (la : Nat → Nat → Nat → Int64) (hI : IX iv fa) (d : Int32) (h_d : 0 ≤ d.toInt ∧ d.toInt ≤ 200) : Met l yX8_isSame (wc yX8_isSame cX8_isSame 6 (some .boolean)) ({ frames := 4, cells := 0, slots := 0, locals := 85 } : Room) (pRZ ak av (dC, dI) classes (WX h g ca iv lv fa la) (TX ca) [.ref (g 11 4), .ref (ak 3), .int 0, .int 2, .int d]) (vp_Si (fun r => (0 ≤ r.toInt ∧ r.toInt ≤ 1) ∧ (((r.toInt = 1 ∧ w_to (fun j => ((fa 8 1) j).toInt) (iv 8 5).toInt d.toInt) ∨ (r.toInt = 0 ∧ ¬ w_to (fun j => ((fa 8 1) j).toInt) (iv 8 5).toInt d.toInt))))) 0 0 (fun _ => False) := by
  refine Met.ofW (cc := cX8_isSame) (maxL := 6) (ret := (some .boolean)) (by decide) rfl ?_
  intro p e s m args below meth c s₁ B hml hv
  obtain ⟨rfl, hP, hK, hZ⟩ := hv
  have hx := B.exec
  have hb := B.bytes
  have hr := B.returns
  have ht := tb_tl (atoms_spec (ws := wc yX8_isSame cX8_isSame 6 (some .boolean)) B.pre)
  have hown : s.vm.findClass RX8 = some m.cls := findClass_of_methodNamed B.named
  have hlocks := B.notSynchronized
  have hl := lv_entry [.ref (g 11 4), .ref (ak 3), .int 0, .int 2, .int d] (n := 6) (Nat.le_of_ble_eq_true rfl)
  rw [lg_entry_eq]
  generalize (lg_sl [.ref (g 11 4), .ref (ak 3), .int 0, .int 2, .int d] ++ List.replicate (6 - (lg_sl [.ref (g 11 4), .ref (ak 3), .int 0, .int 2, .int d]).length) Slot.unset).toArray = ls at hl ⊢
  have hl : lv_has ls 6 [(0, .ref (g 11 4)), (1, .ref (ak 3)), (2, .int 0), (3, .int 2), (4, .int d)] := hl
  refine lv_iload_n hx hb dX8_isSame_0 rfl (lv_at hl 3 rfl) ?_
  refine lv_iload_n hx hb dX8_isSame_1 rfl (lv_at hl 2 rfl) ?_
  refine lv_isub hx hb dX8_isSame_2 ?_
  refine lv_topi (fun v1 ev1 => ?_)
  obtain rfl : 2 = v1 := (ev1.trans (by decide)).symm
  refine lv_iload hx hb dX8_isSame_3 (lv_at hl 4 rfl) ?_
  refine lv_aload_n hx hb dX8_isSame_5 rfl (lv_at hl 0 rfl) ?_
  have i_8_5 : 0 ≤ (iv 8 5).toInt ∧ (iv 8 5).toInt ≤ 200 := hI.1 8 5
  refine gX_8_5 hx hb ht hown hK hP m_235 (v := (iv 8 5)) rfl dX8_isSame_6 ?_
  refine lv_isub hx hb dX8_isSame_9 ?_
  refine lv_topi (fun v2 ev2 => ?_)
  have tv2 := z_sub ev2 (rfl : (d).toInt = _) (rfl : ((iv 8 5)).toInt = _) (by omega) (by omega)
  refine lv_icmp_eq (tgt := 15) hx hb dX8_isSame_10 (by decide) (fun c3 => ?_) (fun c3 => ?_)
  · have fc3 := z_eq (by decide : (2 : Int32).toInt = 2) (rfl : (v2).toInt = _) c3
    refine lv_iconst (v := 0) hx hb dX8_isSame_15 (by decide) ?_
    refine lv_istore (lv' := [(5, .int 0), (0, .ref (g 11 4)), (1, .ref (ak 3)), (2, .int 0), (3, .int 2), (4, .int d)]) hx hb dX8_isSame_16 hl (by decide) rfl (fun ls hl => ?_)
    refine lv_iload hx hb dX8_isSame_18 (lv_at hl 0 rfl) ?_
    refine lv_iload_n hx hb dX8_isSame_20 rfl (lv_at hl 4 rfl) ?_
    refine lv_iload_n hx hb dX8_isSame_21 rfl (lv_at hl 3 rfl) ?_
    refine lv_isub hx hb dX8_isSame_22 ?_
    refine lv_topi (fun v4 ev4 => ?_)
    obtain rfl : 2 = v4 := (ev4.trans (by decide)).symm
    refine lv_icmp_ge (tgt := 57) hx hb dX8_isSame_23 (by decide) (fun c5 => ?_) (fun c5 => ?_)
    · exact absurd c5 (by decide)
    · skip
      refine lv_aload_n hx hb dX8_isSame_26 rfl (lv_at hl 2 rfl) ?_
      refine lv_iload_n hx hb dX8_isSame_27 rfl (lv_at hl 3 rfl) ?_
      refine lv_iload hx hb dX8_isSame_28 (lv_at hl 0 rfl) ?_
      refine lv_iadd hx hb dX8_isSame_30 ?_
      refine lv_topi (fun v6 ev6 => ?_)
      obtain rfl : 0 = v6 := (ev6.trans (by decide)).symm
      refine vp_callSi (W.runV (As := [.int 0]) (rest := []) ⟨hx, hb, hml, hown, ht⟩ (c_J0_charAt_5068e_3 l dC dI ak av 0 ⟨by decide, by decide⟩) (kV 1 ht m_715 m_716 m_717 m_91 m_718 rfl rfl hd_J0_charAt_5068e_v ⟨Nat.le_of_ble_eq_true rfl, Nat.le_of_ble_eq_true rfl⟩) (vRZ noP (hK.sub (tys' := []) [] rfl) hZ (vk_recv hZ.1.2.2.2.2.2 (i := 3) (by decide) va_S.rf)) rfl rfl hl.1 rfl (lv_room (Nat.le_of_ble_eq_true rfl)) dX8_isSame_31 ⟨Nat.le_of_ble_eq_true rfl, Nat.le_of_ble_eq_true rfl⟩) (fun r7 hr7 => ?_)
      obtain rfl : 116 = r7 := (hr7.trans (by decide)).symm
      refine lv_aload_n hx hb dX8_isSame_34 rfl (lv_at hl 1 rfl) ?_
      refine gX_8_1 hx hb ht hown hK hP m_229 dX8_isSame_35 ?_
      refine lv_aload_n hx hb dX8_isSame_38 rfl (lv_at hl 1 rfl) ?_
      refine gX_8_5 hx hb ht hown hK hP m_235 (v := (iv 8 5)) rfl dX8_isSame_39 ?_
      refine lv_iload hx hb dX8_isSame_42 (lv_at hl 0 rfl) ?_
      refine lv_iadd hx hb dX8_isSame_44 ?_
      refine lv_topi (fun v8 ev8 => ?_)
      have tv8 := z_add ev8 (rfl : ((iv 8 5)).toInt = _) (by decide : (0 : Int32).toInt = 0) (by omega) (by omega)
      have : 0 ≤ (v8 : Int32).toInt ∧ (v8 : Int32).toInt ≤ 199 := ⟨by omega, by omega⟩
      refine lX_8_1 hx hb hK hP (f := (fa 8 1)) rfl (vp_in_iff.mpr ⟨by omega, by omega⟩) dX8_isSame_45 ?_
      refine lv_topi (fun v9 ev9 => ?_)
      refine lv_icmp_eq (tgt := 51) hx hb dX8_isSame_46 (by decide) (fun c10 => ?_) (fun c10 => ?_)
      · have fc10 := z_eq (by decide : (116 : Int32).toInt = 116) (rfl : (v9).toInt = _) c10
        refine lv_iinc (v := 1) (lv' := [(5, .int 1), (0, .ref (g 11 4)), (1, .ref (ak 3)), (2, .int 0), (3, .int 2), (4, .int d)]) hx hb dX8_isSame_51 hl (k := 0) rfl (by decide) (by decide) rfl (fun ls hl => ?_)
        refine lv_goto (tgt := 18) hx hb dX8_isSame_54 (by decide) ?_
        refine lv_iload hx hb dX8_isSame_18 (lv_at hl 0 rfl) ?_
        refine lv_iload_n hx hb dX8_isSame_20 rfl (lv_at hl 4 rfl) ?_
        refine lv_iload_n hx hb dX8_isSame_21 rfl (lv_at hl 3 rfl) ?_
        refine lv_isub hx hb dX8_isSame_22 ?_
        refine lv_topi (fun v11 ev11 => ?_)
        obtain rfl : 2 = v11 := (ev11.trans (by decide)).symm
        refine lv_icmp_ge (tgt := 57) hx hb dX8_isSame_23 (by decide) (fun c12 => ?_) (fun c12 => ?_)
        · exact absurd c12 (by decide)
        · skip
          refine lv_aload_n hx hb dX8_isSame_26 rfl (lv_at hl 2 rfl) ?_
          refine lv_iload_n hx hb dX8_isSame_27 rfl (lv_at hl 3 rfl) ?_
          refine lv_iload hx hb dX8_isSame_28 (lv_at hl 0 rfl) ?_
          refine lv_iadd hx hb dX8_isSame_30 ?_
          refine lv_topi (fun v13 ev13 => ?_)
          obtain rfl : 1 = v13 := (ev13.trans (by decide)).symm
          refine vp_callSi (W.runV (As := [.int 1]) (rest := []) ⟨hx, hb, hml, hown, ht⟩ (c_J0_charAt_5068e_3 l dC dI ak av 1 ⟨by decide, by decide⟩) (kV 1 ht m_715 m_716 m_717 m_91 m_718 rfl rfl hd_J0_charAt_5068e_v ⟨Nat.le_of_ble_eq_true rfl, Nat.le_of_ble_eq_true rfl⟩) (vRZ noP (hK.sub (tys' := []) [] rfl) hZ (vk_recv hZ.1.2.2.2.2.2 (i := 3) (by decide) va_S.rf)) rfl rfl hl.1 rfl (lv_room (Nat.le_of_ble_eq_true rfl)) dX8_isSame_31 ⟨Nat.le_of_ble_eq_true rfl, Nat.le_of_ble_eq_true rfl⟩) (fun r14 hr14 => ?_)
          obtain rfl : 111 = r14 := (hr14.trans (by decide)).symm
          refine lv_aload_n hx hb dX8_isSame_34 rfl (lv_at hl 1 rfl) ?_
          refine gX_8_1 hx hb ht hown hK hP m_229 dX8_isSame_35 ?_
          refine lv_aload_n hx hb dX8_isSame_38 rfl (lv_at hl 1 rfl) ?_
          refine gX_8_5 hx hb ht hown hK hP m_235 (v := (iv 8 5)) rfl dX8_isSame_39 ?_
          refine lv_iload hx hb dX8_isSame_42 (lv_at hl 0 rfl) ?_
          refine lv_iadd hx hb dX8_isSame_44 ?_
          refine lv_topi (fun v15 ev15 => ?_)
          have tv15 := z_add ev15 (rfl : ((iv 8 5)).toInt = _) (by decide : (1 : Int32).toInt = 1) (by omega) (by omega)
          have : 0 ≤ (v15 : Int32).toInt ∧ (v15 : Int32).toInt ≤ 199 := ⟨by omega, by omega⟩
          refine lX_8_1 hx hb hK hP (f := (fa 8 1)) rfl (vp_in_iff.mpr ⟨by omega, by omega⟩) dX8_isSame_45 ?_
          refine lv_topi (fun v16 ev16 => ?_)
          refine lv_icmp_eq (tgt := 51) hx hb dX8_isSame_46 (by decide) (fun c17 => ?_) (fun c17 => ?_)
          · have fc17 := z_eq (by decide : (111 : Int32).toInt = 111) (rfl : (v16).toInt = _) c17
            refine lv_iinc (v := 2) (lv' := [(5, .int 2), (0, .ref (g 11 4)), (1, .ref (ak 3)), (2, .int 0), (3, .int 2), (4, .int d)]) hx hb dX8_isSame_51 hl (k := 0) rfl (by decide) (by decide) rfl (fun ls hl => ?_)
            refine lv_goto (tgt := 18) hx hb dX8_isSame_54 (by decide) ?_
            refine lv_iload hx hb dX8_isSame_18 (lv_at hl 0 rfl) ?_
            refine lv_iload_n hx hb dX8_isSame_20 rfl (lv_at hl 4 rfl) ?_
            refine lv_iload_n hx hb dX8_isSame_21 rfl (lv_at hl 3 rfl) ?_
            refine lv_isub hx hb dX8_isSame_22 ?_
            refine lv_topi (fun v18 ev18 => ?_)
            obtain rfl : 2 = v18 := (ev18.trans (by decide)).symm
            refine lv_icmp_ge (tgt := 57) hx hb dX8_isSame_23 (by decide) (fun c19 => ?_) (fun c19 => ?_)
            · skip
              refine lv_iconst (v := 1) hx hb dX8_isSame_57 (by decide) ?_
              have : (1 : Int32).toInt = 1 := (by decide)
              exact W.zret (v := 1) hx hb hr rfl (fun t ht9 hW => ⟨1, rfl, ⟨⟨by decide, by decide⟩, (show (((1 : Int32).toInt = 1 ∧ w_to (fun j => ((fa 8 1) j).toInt) ((iv 8 5) : Int32).toInt (d).toInt) ∨ ((1 : Int32).toInt = 0 ∧ ¬ w_to (fun j => ((fa 8 1) j).toInt) ((iv 8 5) : Int32).toInt (d).toInt)) from (by have q0 := congrArg Int32.toInt (ev9.trans (congrArg (fa 8 1) (show (v8 : Int32).toNatClampNeg = ((iv 8 5).toInt).toNat + 0 from (by show (v8 : Int32).toInt.toNat = _; omega)))); have q1 := congrArg Int32.toInt (ev16.trans (congrArg (fa 8 1) (show (v15 : Int32).toNatClampNeg = ((iv 8 5).toInt).toNat + 1 from (by show (v15 : Int32).toInt.toNat = _; omega)))); exact Or.inl ⟨by omega, (show d.toInt - (iv 8 5).toInt = 2 ∧ (fa 8 1 (((iv 8 5).toInt).toNat + 0)).toInt = 116 ∧ (fa 8 1 (((iv 8 5).toInt).toNat + 1)).toInt = 111 from ⟨by omega, by omega, by omega⟩)⟩))⟩, ht9⟩) (fun q hq => by cases hq) dX8_isSame_58
            · exact absurd c19 (by decide)
          · have fc17 := z_ne (by decide : (111 : Int32).toInt = 111) (rfl : (v16).toInt = _) c17
            refine lv_iconst (v := 0) hx hb dX8_isSame_49 (by decide) ?_
            have : (0 : Int32).toInt = 0 := (by decide)
            exact W.zret (v := 0) hx hb hr rfl (fun t ht9 hW => ⟨0, rfl, ⟨⟨by decide, by decide⟩, (show (((0 : Int32).toInt = 1 ∧ w_to (fun j => ((fa 8 1) j).toInt) ((iv 8 5) : Int32).toInt (d).toInt) ∨ ((0 : Int32).toInt = 0 ∧ ¬ w_to (fun j => ((fa 8 1) j).toInt) ((iv 8 5) : Int32).toInt (d).toInt)) from (by have q0 := congrArg Int32.toInt (ev9.trans (congrArg (fa 8 1) (show (v8 : Int32).toNatClampNeg = ((iv 8 5).toInt).toNat + 0 from (by show (v8 : Int32).toInt.toNat = _; omega)))); have q1 := congrArg Int32.toInt (ev16.trans (congrArg (fa 8 1) (show (v15 : Int32).toNatClampNeg = ((iv 8 5).toInt).toNat + 1 from (by show (v15 : Int32).toInt.toNat = _; omega)))); exact Or.inr ⟨by omega, fun h9 => (by have h8 : d.toInt - (iv 8 5).toInt = 2 ∧ (fa 8 1 (((iv 8 5).toInt).toNat + 0)).toInt = 116 ∧ (fa 8 1 (((iv 8 5).toInt).toNat + 1)).toInt = 111 := h9; omega)⟩))⟩, ht9⟩) (fun q hq => by cases hq) dX8_isSame_50
      · have fc10 := z_ne (by decide : (116 : Int32).toInt = 116) (rfl : (v9).toInt = _) c10
        refine lv_iconst (v := 0) hx hb dX8_isSame_49 (by decide) ?_
        have : (0 : Int32).toInt = 0 := (by decide)
        exact W.zret (v := 0) hx hb hr rfl (fun t ht9 hW => ⟨0, rfl, ⟨⟨by decide, by decide⟩, (show (((0 : Int32).toInt = 1 ∧ w_to (fun j => ((fa 8 1) j).toInt) ((iv 8 5) : Int32).toInt (d).toInt) ∨ ((0 : Int32).toInt = 0 ∧ ¬ w_to (fun j => ((fa 8 1) j).toInt) ((iv 8 5) : Int32).toInt (d).toInt)) from (by have q0 := congrArg Int32.toInt (ev9.trans (congrArg (fa 8 1) (show (v8 : Int32).toNatClampNeg = ((iv 8 5).toInt).toNat + 0 from (by show (v8 : Int32).toInt.toNat = _; omega)))); exact Or.inr ⟨by omega, fun h9 => (by have h8 : d.toInt - (iv 8 5).toInt = 2 ∧ (fa 8 1 (((iv 8 5).toInt).toNat + 0)).toInt = 116 ∧ (fa 8 1 (((iv 8 5).toInt).toNat + 1)).toInt = 111 := h9; omega)⟩))⟩, ht9⟩) (fun q hq => by cases hq) dX8_isSame_50
  · have fc3 := z_ne (by decide : (2 : Int32).toInt = 2) (rfl : (v2).toInt = _) c3
    refine lv_iconst (v := 0) hx hb dX8_isSame_13 (by decide) ?_
    have : (0 : Int32).toInt = 0 := (by decide)
    exact W.zret (v := 0) hx hb hr rfl (fun t ht9 hW => ⟨0, rfl, ⟨⟨by decide, by decide⟩, (show (((0 : Int32).toInt = 1 ∧ w_to (fun j => ((fa 8 1) j).toInt) ((iv 8 5) : Int32).toInt (d).toInt) ∨ ((0 : Int32).toInt = 0 ∧ ¬ w_to (fun j => ((fa 8 1) j).toInt) ((iv 8 5) : Int32).toInt (d).toInt)) from (by exact Or.inr ⟨by omega, fun h9 => (by have h8 : d.toInt - (iv 8 5).toInt = 2 ∧ (fa 8 1 (((iv 8 5).toInt).toNat + 0)).toInt = 116 ∧ (fa 8 1 (((iv 8 5).toInt).toNat + 1)).toInt = 111 := h9; omega)⟩))⟩, ht9⟩) (fun q hq => by cases hq) dX8_isSame_14
