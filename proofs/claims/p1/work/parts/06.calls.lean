set_option maxHeartbeats 4000000 in
set_option maxRecDepth 100000 in
/-- X8_take -/
theorem c_X8_take (l : Launch) (dC : Nat → ClassId) (dI : Nat → Nat → Nat) (sz : Nat) (h : Nat) (g : Nat → Nat → Nat) (ca : Nat → Nat → ClassId) (n : Int32) (k : Int64) (h_n : 1 ≤ n.toInt ∧ n.toInt ≤ 8) : Met l yX8_take (wc yX8_take cX8_take 5 (some .int)) ({ frames := 0, cells := 0, slots := 0, locals := 0 } : Room) (pW (dC, dI) classes [((g 11 4), .inr (8, (o8 h g))), ((g 8 1), .inl ((ca 8 1), 200, .inl (fun _ => 0)))] [((ca 8 1), .byte)] sz [.ref (g 11 4), .int n, .long k]) (va_Qi (fun r (_ : Unit) => r = n) (fun _ _ => True) (va_A [((g 11 4), .inr (8, (o8 h g))), ((g 8 1), .inl ((ca 8 1), 200, .inl (fun _ => 0)))] sz)) 0 0 (va_A [((g 11 4), .inr (8, (o8 h g))), ((g 8 1), .inl ((ca 8 1), 200, .inl (fun _ => 0)))] sz) := by
  refine Met.ofW (cc := cX8_take) (maxL := 5) (ret := (some .int)) (by decide) rfl ?_
  intro p e s m args below meth c s₁ B hml hv
  obtain ⟨rfl, hsz, hP, hK, hD0⟩ := hv
  have hx := B.exec
  have hb := B.bytes
  have hr := B.returns
  have ht := tb_tl (atoms_spec (ws := wc yX8_take cX8_take 5 (some .int)) B.pre)
  have hown : s.vm.findClass RX8 = some m.cls := findClass_of_methodNamed B.named
  have hlocks := B.notSynchronized
  subst hsz
  have hD := hD0.self (sz := s.heap.size)
  generalize hAe : va_A [((g 11 4), .inr (8, (o8 h g))), ((g 8 1), .inl ((ca 8 1), 200, .inl (fun _ => 0)))] s.heap.size = A at hD ⊢
  have hA : ∀ q : Nat, s.heap.size ≤ q → A q := fun q h => by rw [← hAe]; exact Or.inr h
  have hS : va_S A s.heap s.heap [] := va_S.rf
  have hP : va_P (dC, dI) classes [((g 11 4), .inr (8, (o8 h g))), ((g 8 1), .inl ((ca 8 1), 200, .inl (fun _ => 0)))] s.heap := hP
  have hl := lv_entry [.ref (g 11 4), .int n, .long k] (n := 5) (Nat.le_of_ble_eq_true rfl)
  rw [lg_entry_eq]
  generalize (lg_sl [.ref (g 11 4), .int n, .long k] ++ List.replicate (5 - (lg_sl [.ref (g 11 4), .int n, .long k]).length) Slot.unset).toArray = ls at hl ⊢
  have hl : lv_has ls 5 [(0, .ref (g 11 4)), (1, .int n), (2, .long k)] := hl
  refine lv_iload_n hx hb dX8_take_0 rfl (lv_at hl 1 rfl) ?_
  refine lv_iconst (v := 1) hx hb dX8_take_1 (by decide) ?_
  refine lv_isub hx hb dX8_take_2 ?_
  refine lv_topi (fun v1 ev1 => ?_)
  have tv1 := z_sub ev1 (rfl : (n).toInt = _) (by decide : (1 : Int32).toInt = 1) (by omega) (by omega)
  refine lv_istore (lv' := [(4, .int v1), (0, .ref (g 11 4)), (1, .int n), (2, .long k)]) hx hb dX8_take_3 hl (by decide) rfl (fun ls hl => ?_)
  refine lv_iload hx hb dX8_take_5 (lv_at hl 0 rfl) ?_
  refine lv_if_lt (tgt := 44) hx hb dX8_take_7 (by decide) (fun c2 => ?_) (fun c2 => ?_)
  · have fc2 := z_lt (rfl : (v1).toInt = _) (by decide : (0 : Int32).toInt = 0) c2; exfalso; omega
  · skip
    refine lv_aload_n hx hb dX8_take_10 rfl (lv_at hl 1 rfl) ?_
    refine va_get (D := (dC, dI)) (ci := 8) (v := .ref (g 8 1)) (C := RX8) (T := TX8) (N := 6) hx hb ht inX8 hown hK hP 0 rfl rfl 1 (by decide) (ht _ m_229) (fun _ h9 => h9) rfl dX8_take_11 ?_
    refine lv_aload_n hx hb dX8_take_14 rfl (lv_at hl 1 rfl) ?_
    refine va_get (D := (dC, dI)) (ci := 8) (v := .int 0) (C := RX8) (T := TX8) (N := 6) hx hb ht inX8 hown hK hP 0 rfl rfl 2 (by decide) (ht _ m_230) (fun _ h9 => h9) rfl dX8_take_15 ?_
    refine lv_lload_n hx hb dX8_take_18 rfl (lv_at hl 3 rfl) ?_
    refine lv_bipush (v := 8) hx hb dX8_take_19 (by decide) ?_
    refine lv_iload hx hb dX8_take_21 (lv_at hl 0 rfl) ?_
    refine lv_imul hx hb dX8_take_23 ?_
    refine lv_topi (fun v3 ev3 => ?_)
    obtain ⟨w4, ew4⟩ : ∃ y : Int64, (k.toUInt64 >>> ((v3 : Int32).toInt64.toUInt64 &&& Int64.toUInt64 63)).toInt64 = y := ⟨_, rfl⟩
    refine lv_lushr (v := w4) hx hb dX8_take_24 ew4 ?_
    obtain ⟨v5, ev5⟩ : ∃ y : Int32, w4.toInt32 = y := ⟨_, rfl⟩
    refine lv_l2i (v := v5) hx hb dX8_take_25 ev5 ?_
    obtain ⟨v6, ev6⟩ : ∃ y : Int32, v5.toInt8.toInt32 = y := ⟨_, rfl⟩
    refine lv_i2b (v := v6) hx hb dX8_take_26 ev6 ?_
    refine va_bast (D := (dC, dI)) hx hb hK hP hD hS 1 0 rfl rfl (vp_in_iff.mpr (by decide)) dX8_take_27 (fun H locs hP hD hS => ?_)
    obtain ⟨f7, hP, hD⟩ : ∃ f7 : Nat → Int32, va_P (dC, dI) classes [((g 11 4), .inr (8, (o8 h g))), ((g 8 1), .inl ((ca 8 1), 200, .inl f7))] H ∧ va_D A [((g 11 4), .inr (8, (o8 h g))), ((g 8 1), .inl ((ca 8 1), 200, .inl f7))] := ⟨_, hP, hD⟩
    refine lv_aload_n hx hb dX8_take_28 rfl (lv_at hl 1 rfl) ?_
    refine lv_dup hx hb dX8_take_29 rfl ?_
    refine va_get (D := (dC, dI)) (ci := 8) (v := .int 0) (C := RX8) (T := TX8) (N := 6) hx hb ht inX8 hown hK hP 0 rfl rfl 2 (by decide) (ht _ m_230) (fun _ h9 => h9) rfl dX8_take_30 ?_
    refine lv_iconst (v := 1) hx hb dX8_take_33 (by decide) ?_
    refine lv_iadd hx hb dX8_take_34 ?_
    refine lv_topi (fun v8 ev8 => ?_)
    obtain rfl : 1 = v8 := (ev8.trans (by decide)).symm
    refine va_put (D := (dC, dI)) (ci := 8) (v := .int 1) (ty := (.int)) (C := RX8) (T := TX8) (N := 6) hx hb ht inX8 tyX8 tyX8_ok nmX8 hown hK hP hD hS 0 rfl rfl 2 (by decide) (ht _ m_230) (fun _ h9 => h9) rfl (by decide +kernel) rfl rfl (Nat.le_of_ble_eq_true rfl) dX8_take_35 (fun H locs hP hD hS => ?_)
    have hP : va_P (dC, dI) classes [((g 11 4), .inr (8, ((o8 h g).set 2 (.int 1)))), ((g 8 1), .inl ((ca 8 1), 200, .inl f7))] H := hP
    have hD : va_D A [((g 11 4), .inr (8, ((o8 h g).set 2 (.int 1)))), ((g 8 1), .inl ((ca 8 1), 200, .inl f7))] := hD
    obtain ⟨v9, ev9⟩ : ∃ y : Int32, y = v1 + (-1) := ⟨_, rfl⟩
    have tv9 := z_add ev9 rfl (by decide : ((-1) : Int32).toInt = (-1)) (by omega) (by omega)
    refine lv_iinc (v := v9) (lv' := [(4, .int v9), (0, .ref (g 11 4)), (1, .int n), (2, .long k)]) hx hb dX8_take_38 hl (k := 0) rfl (by rw [ev9]; rfl) (by decide) rfl (fun ls hl => ?_)
    refine lv_goto (tgt := 5) hx hb dX8_take_41 (by decide) ?_
    refine lv_iload hx hb dX8_take_5 (lv_at hl 0 rfl) ?_
    refine lv_if_lt (tgt := 44) hx hb dX8_take_7 (by decide) (fun c10 => ?_) (fun c10 => ?_)
    · have fc10 := z_lt (rfl : (v9).toInt = _) (by decide : (0 : Int32).toInt = 0) c10
      refine lv_aload_n hx hb dX8_take_44 rfl (lv_at hl 1 rfl) ?_
      refine va_get (D := (dC, dI)) (ci := 8) (v := .int 1) (C := RX8) (T := TX8) (N := 6) hx hb ht inX8 hown hK hP 0 rfl rfl 2 (by decide) (ht _ m_230) (fun _ h9 => h9) rfl dX8_take_45 ?_
      exact W.iret (v := 1) hx hb hr (fun t ht9 hW => ⟨⟨1, (), rfl, (z_of (x := 1) (by omega) (by decide)), trivial⟩, hS.F ht9⟩) hS.2.2 dX8_take_48
    · have fc10 := z_nlt (rfl : (v9).toInt = _) (by decide : (0 : Int32).toInt = 0) c10
      refine lv_aload_n hx hb dX8_take_10 rfl (lv_at hl 1 rfl) ?_
      refine va_get (D := (dC, dI)) (ci := 8) (v := .ref (g 8 1)) (C := RX8) (T := TX8) (N := 6) hx hb ht inX8 hown hK hP 0 rfl rfl 1 (by decide) (ht _ m_229) (fun _ h9 => h9) rfl dX8_take_11 ?_
      refine lv_aload_n hx hb dX8_take_14 rfl (lv_at hl 1 rfl) ?_
      refine va_get (D := (dC, dI)) (ci := 8) (v := .int 1) (C := RX8) (T := TX8) (N := 6) hx hb ht inX8 hown hK hP 0 rfl rfl 2 (by decide) (ht _ m_230) (fun _ h9 => h9) rfl dX8_take_15 ?_
      refine lv_lload_n hx hb dX8_take_18 rfl (lv_at hl 3 rfl) ?_
      refine lv_bipush (v := 8) hx hb dX8_take_19 (by decide) ?_
      refine lv_iload hx hb dX8_take_21 (lv_at hl 0 rfl) ?_
      refine lv_imul hx hb dX8_take_23 ?_
      refine lv_topi (fun v11 ev11 => ?_)
      obtain ⟨w12, ew12⟩ : ∃ y : Int64, (k.toUInt64 >>> ((v11 : Int32).toInt64.toUInt64 &&& Int64.toUInt64 63)).toInt64 = y := ⟨_, rfl⟩
      refine lv_lushr (v := w12) hx hb dX8_take_24 ew12 ?_
      obtain ⟨v13, ev13⟩ : ∃ y : Int32, w12.toInt32 = y := ⟨_, rfl⟩
      refine lv_l2i (v := v13) hx hb dX8_take_25 ev13 ?_
      obtain ⟨v14, ev14⟩ : ∃ y : Int32, v13.toInt8.toInt32 = y := ⟨_, rfl⟩
      refine lv_i2b (v := v14) hx hb dX8_take_26 ev14 ?_
      refine va_bast (D := (dC, dI)) hx hb hK hP hD hS 1 0 rfl rfl (vp_in_iff.mpr (by decide)) dX8_take_27 (fun H locs hP hD hS => ?_)
      obtain ⟨f15, hP, hD⟩ : ∃ f15 : Nat → Int32, va_P (dC, dI) classes [((g 11 4), .inr (8, ((o8 h g).set 2 (.int 1)))), ((g 8 1), .inl ((ca 8 1), 200, .inl f15))] H ∧ va_D A [((g 11 4), .inr (8, ((o8 h g).set 2 (.int 1)))), ((g 8 1), .inl ((ca 8 1), 200, .inl f15))] := ⟨_, hP, hD⟩
      refine lv_aload_n hx hb dX8_take_28 rfl (lv_at hl 1 rfl) ?_
      refine lv_dup hx hb dX8_take_29 rfl ?_
      refine va_get (D := (dC, dI)) (ci := 8) (v := .int 1) (C := RX8) (T := TX8) (N := 6) hx hb ht inX8 hown hK hP 0 rfl rfl 2 (by decide) (ht _ m_230) (fun _ h9 => h9) rfl dX8_take_30 ?_
      refine lv_iconst (v := 1) hx hb dX8_take_33 (by decide) ?_
      refine lv_iadd hx hb dX8_take_34 ?_
      refine lv_topi (fun v16 ev16 => ?_)
      obtain rfl : 2 = v16 := (ev16.trans (by decide)).symm
      refine va_put (D := (dC, dI)) (ci := 8) (v := .int 2) (ty := (.int)) (C := RX8) (T := TX8) (N := 6) hx hb ht inX8 tyX8 tyX8_ok nmX8 hown hK hP hD hS 0 rfl rfl 2 (by decide) (ht _ m_230) (fun _ h9 => h9) rfl (by decide +kernel) rfl rfl (Nat.le_of_ble_eq_true rfl) dX8_take_35 (fun H locs hP hD hS => ?_)
      have hP : va_P (dC, dI) classes [((g 11 4), .inr (8, ((o8 h g).set 2 (.int 2)))), ((g 8 1), .inl ((ca 8 1), 200, .inl f15))] H := hP
      have hD : va_D A [((g 11 4), .inr (8, ((o8 h g).set 2 (.int 2)))), ((g 8 1), .inl ((ca 8 1), 200, .inl f15))] := hD
      obtain ⟨v17, ev17⟩ : ∃ y : Int32, y = v9 + (-1) := ⟨_, rfl⟩
      have tv17 := z_add ev17 rfl (by decide : ((-1) : Int32).toInt = (-1)) (by omega) (by omega)
      refine lv_iinc (v := v17) (lv' := [(4, .int v17), (0, .ref (g 11 4)), (1, .int n), (2, .long k)]) hx hb dX8_take_38 hl (k := 0) rfl (by rw [ev17]; rfl) (by decide) rfl (fun ls hl => ?_)
      refine lv_goto (tgt := 5) hx hb dX8_take_41 (by decide) ?_
      refine lv_iload hx hb dX8_take_5 (lv_at hl 0 rfl) ?_
      refine lv_if_lt (tgt := 44) hx hb dX8_take_7 (by decide) (fun c18 => ?_) (fun c18 => ?_)
      · have fc18 := z_lt (rfl : (v17).toInt = _) (by decide : (0 : Int32).toInt = 0) c18
        refine lv_aload_n hx hb dX8_take_44 rfl (lv_at hl 1 rfl) ?_
        refine va_get (D := (dC, dI)) (ci := 8) (v := .int 2) (C := RX8) (T := TX8) (N := 6) hx hb ht inX8 hown hK hP 0 rfl rfl 2 (by decide) (ht _ m_230) (fun _ h9 => h9) rfl dX8_take_45 ?_
        exact W.iret (v := 2) hx hb hr (fun t ht9 hW => ⟨⟨2, (), rfl, (z_of (x := 2) (by omega) (by decide)), trivial⟩, hS.F ht9⟩) hS.2.2 dX8_take_48
      · have fc18 := z_nlt (rfl : (v17).toInt = _) (by decide : (0 : Int32).toInt = 0) c18
        refine lv_aload_n hx hb dX8_take_10 rfl (lv_at hl 1 rfl) ?_
        refine va_get (D := (dC, dI)) (ci := 8) (v := .ref (g 8 1)) (C := RX8) (T := TX8) (N := 6) hx hb ht inX8 hown hK hP 0 rfl rfl 1 (by decide) (ht _ m_229) (fun _ h9 => h9) rfl dX8_take_11 ?_
        refine lv_aload_n hx hb dX8_take_14 rfl (lv_at hl 1 rfl) ?_
        refine va_get (D := (dC, dI)) (ci := 8) (v := .int 2) (C := RX8) (T := TX8) (N := 6) hx hb ht inX8 hown hK hP 0 rfl rfl 2 (by decide) (ht _ m_230) (fun _ h9 => h9) rfl dX8_take_15 ?_
        refine lv_lload_n hx hb dX8_take_18 rfl (lv_at hl 3 rfl) ?_
        refine lv_bipush (v := 8) hx hb dX8_take_19 (by decide) ?_
        refine lv_iload hx hb dX8_take_21 (lv_at hl 0 rfl) ?_
        refine lv_imul hx hb dX8_take_23 ?_
        refine lv_topi (fun v19 ev19 => ?_)
        obtain ⟨w20, ew20⟩ : ∃ y : Int64, (k.toUInt64 >>> ((v19 : Int32).toInt64.toUInt64 &&& Int64.toUInt64 63)).toInt64 = y := ⟨_, rfl⟩
        refine lv_lushr (v := w20) hx hb dX8_take_24 ew20 ?_
        obtain ⟨v21, ev21⟩ : ∃ y : Int32, w20.toInt32 = y := ⟨_, rfl⟩
        refine lv_l2i (v := v21) hx hb dX8_take_25 ev21 ?_
        obtain ⟨v22, ev22⟩ : ∃ y : Int32, v21.toInt8.toInt32 = y := ⟨_, rfl⟩
        refine lv_i2b (v := v22) hx hb dX8_take_26 ev22 ?_
        refine va_bast (D := (dC, dI)) hx hb hK hP hD hS 1 0 rfl rfl (vp_in_iff.mpr (by decide)) dX8_take_27 (fun H locs hP hD hS => ?_)
        obtain ⟨f23, hP, hD⟩ : ∃ f23 : Nat → Int32, va_P (dC, dI) classes [((g 11 4), .inr (8, ((o8 h g).set 2 (.int 2)))), ((g 8 1), .inl ((ca 8 1), 200, .inl f23))] H ∧ va_D A [((g 11 4), .inr (8, ((o8 h g).set 2 (.int 2)))), ((g 8 1), .inl ((ca 8 1), 200, .inl f23))] := ⟨_, hP, hD⟩
        refine lv_aload_n hx hb dX8_take_28 rfl (lv_at hl 1 rfl) ?_
        refine lv_dup hx hb dX8_take_29 rfl ?_
        refine va_get (D := (dC, dI)) (ci := 8) (v := .int 2) (C := RX8) (T := TX8) (N := 6) hx hb ht inX8 hown hK hP 0 rfl rfl 2 (by decide) (ht _ m_230) (fun _ h9 => h9) rfl dX8_take_30 ?_
        refine lv_iconst (v := 1) hx hb dX8_take_33 (by decide) ?_
        refine lv_iadd hx hb dX8_take_34 ?_
        refine lv_topi (fun v24 ev24 => ?_)
        obtain rfl : 3 = v24 := (ev24.trans (by decide)).symm
        refine va_put (D := (dC, dI)) (ci := 8) (v := .int 3) (ty := (.int)) (C := RX8) (T := TX8) (N := 6) hx hb ht inX8 tyX8 tyX8_ok nmX8 hown hK hP hD hS 0 rfl rfl 2 (by decide) (ht _ m_230) (fun _ h9 => h9) rfl (by decide +kernel) rfl rfl (Nat.le_of_ble_eq_true rfl) dX8_take_35 (fun H locs hP hD hS => ?_)
        have hP : va_P (dC, dI) classes [((g 11 4), .inr (8, ((o8 h g).set 2 (.int 3)))), ((g 8 1), .inl ((ca 8 1), 200, .inl f23))] H := hP
        have hD : va_D A [((g 11 4), .inr (8, ((o8 h g).set 2 (.int 3)))), ((g 8 1), .inl ((ca 8 1), 200, .inl f23))] := hD
        obtain ⟨v25, ev25⟩ : ∃ y : Int32, y = v17 + (-1) := ⟨_, rfl⟩
        have tv25 := z_add ev25 rfl (by decide : ((-1) : Int32).toInt = (-1)) (by omega) (by omega)
        refine lv_iinc (v := v25) (lv' := [(4, .int v25), (0, .ref (g 11 4)), (1, .int n), (2, .long k)]) hx hb dX8_take_38 hl (k := 0) rfl (by rw [ev25]; rfl) (by decide) rfl (fun ls hl => ?_)
        refine lv_goto (tgt := 5) hx hb dX8_take_41 (by decide) ?_
        refine lv_iload hx hb dX8_take_5 (lv_at hl 0 rfl) ?_
        refine lv_if_lt (tgt := 44) hx hb dX8_take_7 (by decide) (fun c26 => ?_) (fun c26 => ?_)
        · have fc26 := z_lt (rfl : (v25).toInt = _) (by decide : (0 : Int32).toInt = 0) c26
          refine lv_aload_n hx hb dX8_take_44 rfl (lv_at hl 1 rfl) ?_
          refine va_get (D := (dC, dI)) (ci := 8) (v := .int 3) (C := RX8) (T := TX8) (N := 6) hx hb ht inX8 hown hK hP 0 rfl rfl 2 (by decide) (ht _ m_230) (fun _ h9 => h9) rfl dX8_take_45 ?_
          exact W.iret (v := 3) hx hb hr (fun t ht9 hW => ⟨⟨3, (), rfl, (z_of (x := 3) (by omega) (by decide)), trivial⟩, hS.F ht9⟩) hS.2.2 dX8_take_48
        · have fc26 := z_nlt (rfl : (v25).toInt = _) (by decide : (0 : Int32).toInt = 0) c26
          refine lv_aload_n hx hb dX8_take_10 rfl (lv_at hl 1 rfl) ?_
          refine va_get (D := (dC, dI)) (ci := 8) (v := .ref (g 8 1)) (C := RX8) (T := TX8) (N := 6) hx hb ht inX8 hown hK hP 0 rfl rfl 1 (by decide) (ht _ m_229) (fun _ h9 => h9) rfl dX8_take_11 ?_
          refine lv_aload_n hx hb dX8_take_14 rfl (lv_at hl 1 rfl) ?_
          refine va_get (D := (dC, dI)) (ci := 8) (v := .int 3) (C := RX8) (T := TX8) (N := 6) hx hb ht inX8 hown hK hP 0 rfl rfl 2 (by decide) (ht _ m_230) (fun _ h9 => h9) rfl dX8_take_15 ?_
          refine lv_lload_n hx hb dX8_take_18 rfl (lv_at hl 3 rfl) ?_
          refine lv_bipush (v := 8) hx hb dX8_take_19 (by decide) ?_
          refine lv_iload hx hb dX8_take_21 (lv_at hl 0 rfl) ?_
          refine lv_imul hx hb dX8_take_23 ?_
          refine lv_topi (fun v27 ev27 => ?_)
          obtain ⟨w28, ew28⟩ : ∃ y : Int64, (k.toUInt64 >>> ((v27 : Int32).toInt64.toUInt64 &&& Int64.toUInt64 63)).toInt64 = y := ⟨_, rfl⟩
          refine lv_lushr (v := w28) hx hb dX8_take_24 ew28 ?_
          obtain ⟨v29, ev29⟩ : ∃ y : Int32, w28.toInt32 = y := ⟨_, rfl⟩
          refine lv_l2i (v := v29) hx hb dX8_take_25 ev29 ?_
          obtain ⟨v30, ev30⟩ : ∃ y : Int32, v29.toInt8.toInt32 = y := ⟨_, rfl⟩
          refine lv_i2b (v := v30) hx hb dX8_take_26 ev30 ?_
          refine va_bast (D := (dC, dI)) hx hb hK hP hD hS 1 0 rfl rfl (vp_in_iff.mpr (by decide)) dX8_take_27 (fun H locs hP hD hS => ?_)
          obtain ⟨f31, hP, hD⟩ : ∃ f31 : Nat → Int32, va_P (dC, dI) classes [((g 11 4), .inr (8, ((o8 h g).set 2 (.int 3)))), ((g 8 1), .inl ((ca 8 1), 200, .inl f31))] H ∧ va_D A [((g 11 4), .inr (8, ((o8 h g).set 2 (.int 3)))), ((g 8 1), .inl ((ca 8 1), 200, .inl f31))] := ⟨_, hP, hD⟩
          refine lv_aload_n hx hb dX8_take_28 rfl (lv_at hl 1 rfl) ?_
          refine lv_dup hx hb dX8_take_29 rfl ?_
          refine va_get (D := (dC, dI)) (ci := 8) (v := .int 3) (C := RX8) (T := TX8) (N := 6) hx hb ht inX8 hown hK hP 0 rfl rfl 2 (by decide) (ht _ m_230) (fun _ h9 => h9) rfl dX8_take_30 ?_
          refine lv_iconst (v := 1) hx hb dX8_take_33 (by decide) ?_
          refine lv_iadd hx hb dX8_take_34 ?_
          refine lv_topi (fun v32 ev32 => ?_)
          obtain rfl : 4 = v32 := (ev32.trans (by decide)).symm
          refine va_put (D := (dC, dI)) (ci := 8) (v := .int 4) (ty := (.int)) (C := RX8) (T := TX8) (N := 6) hx hb ht inX8 tyX8 tyX8_ok nmX8 hown hK hP hD hS 0 rfl rfl 2 (by decide) (ht _ m_230) (fun _ h9 => h9) rfl (by decide +kernel) rfl rfl (Nat.le_of_ble_eq_true rfl) dX8_take_35 (fun H locs hP hD hS => ?_)
          have hP : va_P (dC, dI) classes [((g 11 4), .inr (8, ((o8 h g).set 2 (.int 4)))), ((g 8 1), .inl ((ca 8 1), 200, .inl f31))] H := hP
          have hD : va_D A [((g 11 4), .inr (8, ((o8 h g).set 2 (.int 4)))), ((g 8 1), .inl ((ca 8 1), 200, .inl f31))] := hD
          obtain ⟨v33, ev33⟩ : ∃ y : Int32, y = v25 + (-1) := ⟨_, rfl⟩
          have tv33 := z_add ev33 rfl (by decide : ((-1) : Int32).toInt = (-1)) (by omega) (by omega)
          refine lv_iinc (v := v33) (lv' := [(4, .int v33), (0, .ref (g 11 4)), (1, .int n), (2, .long k)]) hx hb dX8_take_38 hl (k := 0) rfl (by rw [ev33]; rfl) (by decide) rfl (fun ls hl => ?_)
          refine lv_goto (tgt := 5) hx hb dX8_take_41 (by decide) ?_
          refine lv_iload hx hb dX8_take_5 (lv_at hl 0 rfl) ?_
          refine lv_if_lt (tgt := 44) hx hb dX8_take_7 (by decide) (fun c34 => ?_) (fun c34 => ?_)
          · have fc34 := z_lt (rfl : (v33).toInt = _) (by decide : (0 : Int32).toInt = 0) c34
            refine lv_aload_n hx hb dX8_take_44 rfl (lv_at hl 1 rfl) ?_
            refine va_get (D := (dC, dI)) (ci := 8) (v := .int 4) (C := RX8) (T := TX8) (N := 6) hx hb ht inX8 hown hK hP 0 rfl rfl 2 (by decide) (ht _ m_230) (fun _ h9 => h9) rfl dX8_take_45 ?_
            exact W.iret (v := 4) hx hb hr (fun t ht9 hW => ⟨⟨4, (), rfl, (z_of (x := 4) (by omega) (by decide)), trivial⟩, hS.F ht9⟩) hS.2.2 dX8_take_48
          · have fc34 := z_nlt (rfl : (v33).toInt = _) (by decide : (0 : Int32).toInt = 0) c34
            refine lv_aload_n hx hb dX8_take_10 rfl (lv_at hl 1 rfl) ?_
            refine va_get (D := (dC, dI)) (ci := 8) (v := .ref (g 8 1)) (C := RX8) (T := TX8) (N := 6) hx hb ht inX8 hown hK hP 0 rfl rfl 1 (by decide) (ht _ m_229) (fun _ h9 => h9) rfl dX8_take_11 ?_
            refine lv_aload_n hx hb dX8_take_14 rfl (lv_at hl 1 rfl) ?_
            refine va_get (D := (dC, dI)) (ci := 8) (v := .int 4) (C := RX8) (T := TX8) (N := 6) hx hb ht inX8 hown hK hP 0 rfl rfl 2 (by decide) (ht _ m_230) (fun _ h9 => h9) rfl dX8_take_15 ?_
            refine lv_lload_n hx hb dX8_take_18 rfl (lv_at hl 3 rfl) ?_
            refine lv_bipush (v := 8) hx hb dX8_take_19 (by decide) ?_
            refine lv_iload hx hb dX8_take_21 (lv_at hl 0 rfl) ?_
            refine lv_imul hx hb dX8_take_23 ?_
            refine lv_topi (fun v35 ev35 => ?_)
            obtain ⟨w36, ew36⟩ : ∃ y : Int64, (k.toUInt64 >>> ((v35 : Int32).toInt64.toUInt64 &&& Int64.toUInt64 63)).toInt64 = y := ⟨_, rfl⟩
            refine lv_lushr (v := w36) hx hb dX8_take_24 ew36 ?_
            obtain ⟨v37, ev37⟩ : ∃ y : Int32, w36.toInt32 = y := ⟨_, rfl⟩
            refine lv_l2i (v := v37) hx hb dX8_take_25 ev37 ?_
            obtain ⟨v38, ev38⟩ : ∃ y : Int32, v37.toInt8.toInt32 = y := ⟨_, rfl⟩
            refine lv_i2b (v := v38) hx hb dX8_take_26 ev38 ?_
            refine va_bast (D := (dC, dI)) hx hb hK hP hD hS 1 0 rfl rfl (vp_in_iff.mpr (by decide)) dX8_take_27 (fun H locs hP hD hS => ?_)
            obtain ⟨f39, hP, hD⟩ : ∃ f39 : Nat → Int32, va_P (dC, dI) classes [((g 11 4), .inr (8, ((o8 h g).set 2 (.int 4)))), ((g 8 1), .inl ((ca 8 1), 200, .inl f39))] H ∧ va_D A [((g 11 4), .inr (8, ((o8 h g).set 2 (.int 4)))), ((g 8 1), .inl ((ca 8 1), 200, .inl f39))] := ⟨_, hP, hD⟩
            refine lv_aload_n hx hb dX8_take_28 rfl (lv_at hl 1 rfl) ?_
            refine lv_dup hx hb dX8_take_29 rfl ?_
            refine va_get (D := (dC, dI)) (ci := 8) (v := .int 4) (C := RX8) (T := TX8) (N := 6) hx hb ht inX8 hown hK hP 0 rfl rfl 2 (by decide) (ht _ m_230) (fun _ h9 => h9) rfl dX8_take_30 ?_
            refine lv_iconst (v := 1) hx hb dX8_take_33 (by decide) ?_
            refine lv_iadd hx hb dX8_take_34 ?_
            refine lv_topi (fun v40 ev40 => ?_)
            obtain rfl : 5 = v40 := (ev40.trans (by decide)).symm
            refine va_put (D := (dC, dI)) (ci := 8) (v := .int 5) (ty := (.int)) (C := RX8) (T := TX8) (N := 6) hx hb ht inX8 tyX8 tyX8_ok nmX8 hown hK hP hD hS 0 rfl rfl 2 (by decide) (ht _ m_230) (fun _ h9 => h9) rfl (by decide +kernel) rfl rfl (Nat.le_of_ble_eq_true rfl) dX8_take_35 (fun H locs hP hD hS => ?_)
            have hP : va_P (dC, dI) classes [((g 11 4), .inr (8, ((o8 h g).set 2 (.int 5)))), ((g 8 1), .inl ((ca 8 1), 200, .inl f39))] H := hP
            have hD : va_D A [((g 11 4), .inr (8, ((o8 h g).set 2 (.int 5)))), ((g 8 1), .inl ((ca 8 1), 200, .inl f39))] := hD
            obtain ⟨v41, ev41⟩ : ∃ y : Int32, y = v33 + (-1) := ⟨_, rfl⟩
            have tv41 := z_add ev41 rfl (by decide : ((-1) : Int32).toInt = (-1)) (by omega) (by omega)
            refine lv_iinc (v := v41) (lv' := [(4, .int v41), (0, .ref (g 11 4)), (1, .int n), (2, .long k)]) hx hb dX8_take_38 hl (k := 0) rfl (by rw [ev41]; rfl) (by decide) rfl (fun ls hl => ?_)
            refine lv_goto (tgt := 5) hx hb dX8_take_41 (by decide) ?_
            refine lv_iload hx hb dX8_take_5 (lv_at hl 0 rfl) ?_
            refine lv_if_lt (tgt := 44) hx hb dX8_take_7 (by decide) (fun c42 => ?_) (fun c42 => ?_)
            · have fc42 := z_lt (rfl : (v41).toInt = _) (by decide : (0 : Int32).toInt = 0) c42
              refine lv_aload_n hx hb dX8_take_44 rfl (lv_at hl 1 rfl) ?_
              refine va_get (D := (dC, dI)) (ci := 8) (v := .int 5) (C := RX8) (T := TX8) (N := 6) hx hb ht inX8 hown hK hP 0 rfl rfl 2 (by decide) (ht _ m_230) (fun _ h9 => h9) rfl dX8_take_45 ?_
              exact W.iret (v := 5) hx hb hr (fun t ht9 hW => ⟨⟨5, (), rfl, (z_of (x := 5) (by omega) (by decide)), trivial⟩, hS.F ht9⟩) hS.2.2 dX8_take_48
            · have fc42 := z_nlt (rfl : (v41).toInt = _) (by decide : (0 : Int32).toInt = 0) c42
              refine lv_aload_n hx hb dX8_take_10 rfl (lv_at hl 1 rfl) ?_
              refine va_get (D := (dC, dI)) (ci := 8) (v := .ref (g 8 1)) (C := RX8) (T := TX8) (N := 6) hx hb ht inX8 hown hK hP 0 rfl rfl 1 (by decide) (ht _ m_229) (fun _ h9 => h9) rfl dX8_take_11 ?_
              refine lv_aload_n hx hb dX8_take_14 rfl (lv_at hl 1 rfl) ?_
              refine va_get (D := (dC, dI)) (ci := 8) (v := .int 5) (C := RX8) (T := TX8) (N := 6) hx hb ht inX8 hown hK hP 0 rfl rfl 2 (by decide) (ht _ m_230) (fun _ h9 => h9) rfl dX8_take_15 ?_
              refine lv_lload_n hx hb dX8_take_18 rfl (lv_at hl 3 rfl) ?_
              refine lv_bipush (v := 8) hx hb dX8_take_19 (by decide) ?_
              refine lv_iload hx hb dX8_take_21 (lv_at hl 0 rfl) ?_
              refine lv_imul hx hb dX8_take_23 ?_
              refine lv_topi (fun v43 ev43 => ?_)
              obtain ⟨w44, ew44⟩ : ∃ y : Int64, (k.toUInt64 >>> ((v43 : Int32).toInt64.toUInt64 &&& Int64.toUInt64 63)).toInt64 = y := ⟨_, rfl⟩
              refine lv_lushr (v := w44) hx hb dX8_take_24 ew44 ?_
              obtain ⟨v45, ev45⟩ : ∃ y : Int32, w44.toInt32 = y := ⟨_, rfl⟩
              refine lv_l2i (v := v45) hx hb dX8_take_25 ev45 ?_
              obtain ⟨v46, ev46⟩ : ∃ y : Int32, v45.toInt8.toInt32 = y := ⟨_, rfl⟩
              refine lv_i2b (v := v46) hx hb dX8_take_26 ev46 ?_
              refine va_bast (D := (dC, dI)) hx hb hK hP hD hS 1 0 rfl rfl (vp_in_iff.mpr (by decide)) dX8_take_27 (fun H locs hP hD hS => ?_)
              obtain ⟨f47, hP, hD⟩ : ∃ f47 : Nat → Int32, va_P (dC, dI) classes [((g 11 4), .inr (8, ((o8 h g).set 2 (.int 5)))), ((g 8 1), .inl ((ca 8 1), 200, .inl f47))] H ∧ va_D A [((g 11 4), .inr (8, ((o8 h g).set 2 (.int 5)))), ((g 8 1), .inl ((ca 8 1), 200, .inl f47))] := ⟨_, hP, hD⟩
              refine lv_aload_n hx hb dX8_take_28 rfl (lv_at hl 1 rfl) ?_
              refine lv_dup hx hb dX8_take_29 rfl ?_
              refine va_get (D := (dC, dI)) (ci := 8) (v := .int 5) (C := RX8) (T := TX8) (N := 6) hx hb ht inX8 hown hK hP 0 rfl rfl 2 (by decide) (ht _ m_230) (fun _ h9 => h9) rfl dX8_take_30 ?_
              refine lv_iconst (v := 1) hx hb dX8_take_33 (by decide) ?_
              refine lv_iadd hx hb dX8_take_34 ?_
              refine lv_topi (fun v48 ev48 => ?_)
              obtain rfl : 6 = v48 := (ev48.trans (by decide)).symm
              refine va_put (D := (dC, dI)) (ci := 8) (v := .int 6) (ty := (.int)) (C := RX8) (T := TX8) (N := 6) hx hb ht inX8 tyX8 tyX8_ok nmX8 hown hK hP hD hS 0 rfl rfl 2 (by decide) (ht _ m_230) (fun _ h9 => h9) rfl (by decide +kernel) rfl rfl (Nat.le_of_ble_eq_true rfl) dX8_take_35 (fun H locs hP hD hS => ?_)
              have hP : va_P (dC, dI) classes [((g 11 4), .inr (8, ((o8 h g).set 2 (.int 6)))), ((g 8 1), .inl ((ca 8 1), 200, .inl f47))] H := hP
              have hD : va_D A [((g 11 4), .inr (8, ((o8 h g).set 2 (.int 6)))), ((g 8 1), .inl ((ca 8 1), 200, .inl f47))] := hD
              obtain ⟨v49, ev49⟩ : ∃ y : Int32, y = v41 + (-1) := ⟨_, rfl⟩
              have tv49 := z_add ev49 rfl (by decide : ((-1) : Int32).toInt = (-1)) (by omega) (by omega)
              refine lv_iinc (v := v49) (lv' := [(4, .int v49), (0, .ref (g 11 4)), (1, .int n), (2, .long k)]) hx hb dX8_take_38 hl (k := 0) rfl (by rw [ev49]; rfl) (by decide) rfl (fun ls hl => ?_)
              refine lv_goto (tgt := 5) hx hb dX8_take_41 (by decide) ?_
              refine lv_iload hx hb dX8_take_5 (lv_at hl 0 rfl) ?_
              refine lv_if_lt (tgt := 44) hx hb dX8_take_7 (by decide) (fun c50 => ?_) (fun c50 => ?_)
              · have fc50 := z_lt (rfl : (v49).toInt = _) (by decide : (0 : Int32).toInt = 0) c50
                refine lv_aload_n hx hb dX8_take_44 rfl (lv_at hl 1 rfl) ?_
                refine va_get (D := (dC, dI)) (ci := 8) (v := .int 6) (C := RX8) (T := TX8) (N := 6) hx hb ht inX8 hown hK hP 0 rfl rfl 2 (by decide) (ht _ m_230) (fun _ h9 => h9) rfl dX8_take_45 ?_
                exact W.iret (v := 6) hx hb hr (fun t ht9 hW => ⟨⟨6, (), rfl, (z_of (x := 6) (by omega) (by decide)), trivial⟩, hS.F ht9⟩) hS.2.2 dX8_take_48
              · have fc50 := z_nlt (rfl : (v49).toInt = _) (by decide : (0 : Int32).toInt = 0) c50
                refine lv_aload_n hx hb dX8_take_10 rfl (lv_at hl 1 rfl) ?_
                refine va_get (D := (dC, dI)) (ci := 8) (v := .ref (g 8 1)) (C := RX8) (T := TX8) (N := 6) hx hb ht inX8 hown hK hP 0 rfl rfl 1 (by decide) (ht _ m_229) (fun _ h9 => h9) rfl dX8_take_11 ?_
                refine lv_aload_n hx hb dX8_take_14 rfl (lv_at hl 1 rfl) ?_
                refine va_get (D := (dC, dI)) (ci := 8) (v := .int 6) (C := RX8) (T := TX8) (N := 6) hx hb ht inX8 hown hK hP 0 rfl rfl 2 (by decide) (ht _ m_230) (fun _ h9 => h9) rfl dX8_take_15 ?_
                refine lv_lload_n hx hb dX8_take_18 rfl (lv_at hl 3 rfl) ?_
                refine lv_bipush (v := 8) hx hb dX8_take_19 (by decide) ?_
                refine lv_iload hx hb dX8_take_21 (lv_at hl 0 rfl) ?_
                refine lv_imul hx hb dX8_take_23 ?_
                refine lv_topi (fun v51 ev51 => ?_)
                obtain ⟨w52, ew52⟩ : ∃ y : Int64, (k.toUInt64 >>> ((v51 : Int32).toInt64.toUInt64 &&& Int64.toUInt64 63)).toInt64 = y := ⟨_, rfl⟩
                refine lv_lushr (v := w52) hx hb dX8_take_24 ew52 ?_
                obtain ⟨v53, ev53⟩ : ∃ y : Int32, w52.toInt32 = y := ⟨_, rfl⟩
                refine lv_l2i (v := v53) hx hb dX8_take_25 ev53 ?_
                obtain ⟨v54, ev54⟩ : ∃ y : Int32, v53.toInt8.toInt32 = y := ⟨_, rfl⟩
                refine lv_i2b (v := v54) hx hb dX8_take_26 ev54 ?_
                refine va_bast (D := (dC, dI)) hx hb hK hP hD hS 1 0 rfl rfl (vp_in_iff.mpr (by decide)) dX8_take_27 (fun H locs hP hD hS => ?_)
                obtain ⟨f55, hP, hD⟩ : ∃ f55 : Nat → Int32, va_P (dC, dI) classes [((g 11 4), .inr (8, ((o8 h g).set 2 (.int 6)))), ((g 8 1), .inl ((ca 8 1), 200, .inl f55))] H ∧ va_D A [((g 11 4), .inr (8, ((o8 h g).set 2 (.int 6)))), ((g 8 1), .inl ((ca 8 1), 200, .inl f55))] := ⟨_, hP, hD⟩
                refine lv_aload_n hx hb dX8_take_28 rfl (lv_at hl 1 rfl) ?_
                refine lv_dup hx hb dX8_take_29 rfl ?_
                refine va_get (D := (dC, dI)) (ci := 8) (v := .int 6) (C := RX8) (T := TX8) (N := 6) hx hb ht inX8 hown hK hP 0 rfl rfl 2 (by decide) (ht _ m_230) (fun _ h9 => h9) rfl dX8_take_30 ?_
                refine lv_iconst (v := 1) hx hb dX8_take_33 (by decide) ?_
                refine lv_iadd hx hb dX8_take_34 ?_
                refine lv_topi (fun v56 ev56 => ?_)
                obtain rfl : 7 = v56 := (ev56.trans (by decide)).symm
                refine va_put (D := (dC, dI)) (ci := 8) (v := .int 7) (ty := (.int)) (C := RX8) (T := TX8) (N := 6) hx hb ht inX8 tyX8 tyX8_ok nmX8 hown hK hP hD hS 0 rfl rfl 2 (by decide) (ht _ m_230) (fun _ h9 => h9) rfl (by decide +kernel) rfl rfl (Nat.le_of_ble_eq_true rfl) dX8_take_35 (fun H locs hP hD hS => ?_)
                have hP : va_P (dC, dI) classes [((g 11 4), .inr (8, ((o8 h g).set 2 (.int 7)))), ((g 8 1), .inl ((ca 8 1), 200, .inl f55))] H := hP
                have hD : va_D A [((g 11 4), .inr (8, ((o8 h g).set 2 (.int 7)))), ((g 8 1), .inl ((ca 8 1), 200, .inl f55))] := hD
                obtain ⟨v57, ev57⟩ : ∃ y : Int32, y = v49 + (-1) := ⟨_, rfl⟩
                have tv57 := z_add ev57 rfl (by decide : ((-1) : Int32).toInt = (-1)) (by omega) (by omega)
                refine lv_iinc (v := v57) (lv' := [(4, .int v57), (0, .ref (g 11 4)), (1, .int n), (2, .long k)]) hx hb dX8_take_38 hl (k := 0) rfl (by rw [ev57]; rfl) (by decide) rfl (fun ls hl => ?_)
                refine lv_goto (tgt := 5) hx hb dX8_take_41 (by decide) ?_
                refine lv_iload hx hb dX8_take_5 (lv_at hl 0 rfl) ?_
                refine lv_if_lt (tgt := 44) hx hb dX8_take_7 (by decide) (fun c58 => ?_) (fun c58 => ?_)
                · have fc58 := z_lt (rfl : (v57).toInt = _) (by decide : (0 : Int32).toInt = 0) c58
                  refine lv_aload_n hx hb dX8_take_44 rfl (lv_at hl 1 rfl) ?_
                  refine va_get (D := (dC, dI)) (ci := 8) (v := .int 7) (C := RX8) (T := TX8) (N := 6) hx hb ht inX8 hown hK hP 0 rfl rfl 2 (by decide) (ht _ m_230) (fun _ h9 => h9) rfl dX8_take_45 ?_
                  exact W.iret (v := 7) hx hb hr (fun t ht9 hW => ⟨⟨7, (), rfl, (z_of (x := 7) (by omega) (by decide)), trivial⟩, hS.F ht9⟩) hS.2.2 dX8_take_48
                · have fc58 := z_nlt (rfl : (v57).toInt = _) (by decide : (0 : Int32).toInt = 0) c58
                  refine lv_aload_n hx hb dX8_take_10 rfl (lv_at hl 1 rfl) ?_
                  refine va_get (D := (dC, dI)) (ci := 8) (v := .ref (g 8 1)) (C := RX8) (T := TX8) (N := 6) hx hb ht inX8 hown hK hP 0 rfl rfl 1 (by decide) (ht _ m_229) (fun _ h9 => h9) rfl dX8_take_11 ?_
                  refine lv_aload_n hx hb dX8_take_14 rfl (lv_at hl 1 rfl) ?_
                  refine va_get (D := (dC, dI)) (ci := 8) (v := .int 7) (C := RX8) (T := TX8) (N := 6) hx hb ht inX8 hown hK hP 0 rfl rfl 2 (by decide) (ht _ m_230) (fun _ h9 => h9) rfl dX8_take_15 ?_
                  refine lv_lload_n hx hb dX8_take_18 rfl (lv_at hl 3 rfl) ?_
                  refine lv_bipush (v := 8) hx hb dX8_take_19 (by decide) ?_
                  refine lv_iload hx hb dX8_take_21 (lv_at hl 0 rfl) ?_
                  refine lv_imul hx hb dX8_take_23 ?_
                  refine lv_topi (fun v59 ev59 => ?_)
                  obtain ⟨w60, ew60⟩ : ∃ y : Int64, (k.toUInt64 >>> ((v59 : Int32).toInt64.toUInt64 &&& Int64.toUInt64 63)).toInt64 = y := ⟨_, rfl⟩
                  refine lv_lushr (v := w60) hx hb dX8_take_24 ew60 ?_
                  obtain ⟨v61, ev61⟩ : ∃ y : Int32, w60.toInt32 = y := ⟨_, rfl⟩
                  refine lv_l2i (v := v61) hx hb dX8_take_25 ev61 ?_
                  obtain ⟨v62, ev62⟩ : ∃ y : Int32, v61.toInt8.toInt32 = y := ⟨_, rfl⟩
                  refine lv_i2b (v := v62) hx hb dX8_take_26 ev62 ?_
                  refine va_bast (D := (dC, dI)) hx hb hK hP hD hS 1 0 rfl rfl (vp_in_iff.mpr (by decide)) dX8_take_27 (fun H locs hP hD hS => ?_)
                  obtain ⟨f63, hP, hD⟩ : ∃ f63 : Nat → Int32, va_P (dC, dI) classes [((g 11 4), .inr (8, ((o8 h g).set 2 (.int 7)))), ((g 8 1), .inl ((ca 8 1), 200, .inl f63))] H ∧ va_D A [((g 11 4), .inr (8, ((o8 h g).set 2 (.int 7)))), ((g 8 1), .inl ((ca 8 1), 200, .inl f63))] := ⟨_, hP, hD⟩
                  refine lv_aload_n hx hb dX8_take_28 rfl (lv_at hl 1 rfl) ?_
                  refine lv_dup hx hb dX8_take_29 rfl ?_
                  refine va_get (D := (dC, dI)) (ci := 8) (v := .int 7) (C := RX8) (T := TX8) (N := 6) hx hb ht inX8 hown hK hP 0 rfl rfl 2 (by decide) (ht _ m_230) (fun _ h9 => h9) rfl dX8_take_30 ?_
                  refine lv_iconst (v := 1) hx hb dX8_take_33 (by decide) ?_
                  refine lv_iadd hx hb dX8_take_34 ?_
                  refine lv_topi (fun v64 ev64 => ?_)
                  obtain rfl : 8 = v64 := (ev64.trans (by decide)).symm
                  refine va_put (D := (dC, dI)) (ci := 8) (v := .int 8) (ty := (.int)) (C := RX8) (T := TX8) (N := 6) hx hb ht inX8 tyX8 tyX8_ok nmX8 hown hK hP hD hS 0 rfl rfl 2 (by decide) (ht _ m_230) (fun _ h9 => h9) rfl (by decide +kernel) rfl rfl (Nat.le_of_ble_eq_true rfl) dX8_take_35 (fun H locs hP hD hS => ?_)
                  have hP : va_P (dC, dI) classes [((g 11 4), .inr (8, ((o8 h g).set 2 (.int 8)))), ((g 8 1), .inl ((ca 8 1), 200, .inl f63))] H := hP
                  have hD : va_D A [((g 11 4), .inr (8, ((o8 h g).set 2 (.int 8)))), ((g 8 1), .inl ((ca 8 1), 200, .inl f63))] := hD
                  obtain ⟨v65, ev65⟩ : ∃ y : Int32, y = v57 + (-1) := ⟨_, rfl⟩
                  have tv65 := z_add ev65 rfl (by decide : ((-1) : Int32).toInt = (-1)) (by omega) (by omega)
                  refine lv_iinc (v := v65) (lv' := [(4, .int v65), (0, .ref (g 11 4)), (1, .int n), (2, .long k)]) hx hb dX8_take_38 hl (k := 0) rfl (by rw [ev65]; rfl) (by decide) rfl (fun ls hl => ?_)
                  refine lv_goto (tgt := 5) hx hb dX8_take_41 (by decide) ?_
                  refine lv_iload hx hb dX8_take_5 (lv_at hl 0 rfl) ?_
                  refine lv_if_lt (tgt := 44) hx hb dX8_take_7 (by decide) (fun c66 => ?_) (fun c66 => ?_)
                  · skip
                    refine lv_aload_n hx hb dX8_take_44 rfl (lv_at hl 1 rfl) ?_
                    refine va_get (D := (dC, dI)) (ci := 8) (v := .int 8) (C := RX8) (T := TX8) (N := 6) hx hb ht inX8 hown hK hP 0 rfl rfl 2 (by decide) (ht _ m_230) (fun _ h9 => h9) rfl dX8_take_45 ?_
                    exact W.iret (v := 8) hx hb hr (fun t ht9 hW => ⟨⟨8, (), rfl, (z_of (x := 8) (by omega) (by decide)), trivial⟩, hS.F ht9⟩) hS.2.2 dX8_take_48
                  · have fc66 := z_nlt (rfl : (v65).toInt = _) (by decide : (0 : Int32).toInt = 0) c66; exfalso; omega
set_option maxHeartbeats 4000000 in
set_option maxRecDepth 100000 in
/-- X1_startDraft -/
theorem c_X1_startDraft (l : Launch) (dC : Nat → ClassId) (dI : Nat → Nat → Nat) (sz : Nat) (h : Nat) (g : Nat → Nat → Nat) (ca : Nat → Nat → ClassId) : Met l yX1_startDraft (wc yX1_startDraft cX1_startDraft 1 none) ({ frames := 0, cells := 0, slots := 0, locals := 0 } : Room) (pW (dC, dI) classes [((g 11 3), .inr (1, (o1 h g)))] [] sz [.ref (g 11 3)]) (va_Qv (fun _ : Unit => True) (fun _ t => va_P (dC, dI) classes [((g 11 3), .inr (1, (o1 h g)))] t.heap ∧ va_D (va_A [((g 11 3), .inr (1, (o1 h g)))] sz) [((g 11 3), .inr (1, (o1 h g)))]) (va_A [((g 11 3), .inr (1, (o1 h g)))] sz)) 0 0 (va_A [((g 11 3), .inr (1, (o1 h g)))] sz) := by
  refine Met.ofW (cc := cX1_startDraft) (maxL := 1) (ret := none) (by decide) rfl ?_
  intro p e s m args below meth c s₁ B hml hv
  obtain ⟨rfl, hsz, hP, hK, hD0⟩ := hv
  have hx := B.exec
  have hb := B.bytes
  have hr := B.returns
  have ht := tb_tl (atoms_spec (ws := wc yX1_startDraft cX1_startDraft 1 none) B.pre)
  have hown : s.vm.findClass RX1 = some m.cls := findClass_of_methodNamed B.named
  have hlocks := B.notSynchronized
  subst hsz
  have hD := hD0.self (sz := s.heap.size)
  generalize hAe : va_A [((g 11 3), .inr (1, (o1 h g)))] s.heap.size = A at hD ⊢
  have hA : ∀ q : Nat, s.heap.size ≤ q → A q := fun q h => by rw [← hAe]; exact Or.inr h
  have hS : va_S A s.heap s.heap [] := va_S.rf
  have hP : va_P (dC, dI) classes [((g 11 3), .inr (1, (o1 h g)))] s.heap := hP
  have hl := lv_entry [.ref (g 11 3)] (n := 1) (Nat.le_of_ble_eq_true rfl)
  rw [lg_entry_eq]
  generalize (lg_sl [.ref (g 11 3)] ++ List.replicate (1 - (lg_sl [.ref (g 11 3)]).length) Slot.unset).toArray = ls at hl ⊢
  have hl : lv_has ls 1 [(0, .ref (g 11 3))] := hl
  refine lv_aload_n hx hb dX1_startDraft_0 rfl (lv_at hl 0 rfl) ?_
  refine lv_iconst (v := 0) hx hb dX1_startDraft_1 (by decide) ?_
  refine va_put (D := (dC, dI)) (ci := 1) (v := .int 0) (ty := (.int)) (C := RX1) (T := TX1) (N := 9) hx hb ht inX1 tyX1 tyX1_ok nmX1 hown hK hP hD hS 0 rfl rfl 8 (by decide) (ht _ m_199) (fun _ h9 => h9) rfl (by decide +kernel) rfl rfl (Nat.le_of_ble_eq_true rfl) dX1_startDraft_2 (fun H locs hP hD hS => ?_)
  have hP : va_P (dC, dI) classes [((g 11 3), .inr (1, (o1 h g)))] H := hP
  have hD : va_D A [((g 11 3), .inr (1, (o1 h g)))] := hD
  have hP9 := hP.sub (ws' := [((g 11 3), .inr (1, (o1 h g)))]) [0] rfl
  have hD9 := hD.sub (ws' := [((g 11 3), .inr (1, (o1 h g)))]) [0] (by decide) rfl
  exact W.vret hx hb hr (fun t ht9 hW => ⟨⟨(), rfl, trivial, by rw [ht9]; exact hP9, hD9⟩, hS.F ht9⟩) hS.2.2 dX1_startDraft_5
set_option maxHeartbeats 4000000 in
set_option maxRecDepth 100000 in
/-- X8_skipBlanks -/
theorem c_X8_skipBlanks (l : Launch) (dC : Nat → ClassId) (dI : Nat → Nat → Nat) (h : Nat) (g : Nat → Nat → Nat) (ca : Nat → Nat → ClassId) : Met l yX8_skipBlanks (wc yX8_skipBlanks cX8_skipBlanks 1 (some .boolean)) ({ frames := 0, cells := 0, slots := 0, locals := 0 } : Room) (pR (dC, dI) classes [((g 11 4), .inr (8, (o8 h g)))] [] [.ref (g 11 4)]) (vp_Si (fun r => r = 0)) 0 0 (fun _ => False) := by
  refine Met.ofW (cc := cX8_skipBlanks) (maxL := 1) (ret := (some .boolean)) (by decide) rfl ?_
  intro p e s m args below meth c s₁ B hml hv
  obtain ⟨rfl, hP, hK⟩ := hv
  have hx := B.exec
  have hb := B.bytes
  have hr := B.returns
  have ht := tb_tl (atoms_spec (ws := wc yX8_skipBlanks cX8_skipBlanks 1 (some .boolean)) B.pre)
  have hown : s.vm.findClass RX8 = some m.cls := findClass_of_methodNamed B.named
  have hlocks := B.notSynchronized
  have hl := lv_entry [.ref (g 11 4)] (n := 1) (Nat.le_of_ble_eq_true rfl)
  rw [lg_entry_eq]
  generalize (lg_sl [.ref (g 11 4)] ++ List.replicate (1 - (lg_sl [.ref (g 11 4)]).length) Slot.unset).toArray = ls at hl ⊢
  have hl : lv_has ls 1 [(0, .ref (g 11 4))] := hl
  refine lv_aload_n hx hb dX8_skipBlanks_0 rfl (lv_at hl 0 rfl) ?_
  refine va_get (D := (dC, dI)) (ci := 8) (v := .int 0) (C := RX8) (T := TX8) (N := 6) hx hb ht inX8 hown hK hP 0 rfl rfl 5 (by decide) (ht _ m_235) (fun _ h9 => h9) rfl dX8_skipBlanks_1 ?_
  refine lv_aload_n hx hb dX8_skipBlanks_4 rfl (lv_at hl 0 rfl) ?_
  refine va_get (D := (dC, dI)) (ci := 8) (v := .int 0) (C := RX8) (T := TX8) (N := 6) hx hb ht inX8 hown hK hP 0 rfl rfl 2 (by decide) (ht _ m_230) (fun _ h9 => h9) rfl dX8_skipBlanks_5 ?_
  refine lv_icmp_ge (tgt := 38) hx hb dX8_skipBlanks_8 (by decide) (fun c1 => ?_) (fun c1 => ?_)
  · skip
    refine lv_aload_n hx hb dX8_skipBlanks_38 rfl (lv_at hl 0 rfl) ?_
    refine va_get (D := (dC, dI)) (ci := 8) (v := .int 0) (C := RX8) (T := TX8) (N := 6) hx hb ht inX8 hown hK hP 0 rfl rfl 5 (by decide) (ht _ m_235) (fun _ h9 => h9) rfl dX8_skipBlanks_39 ?_
    refine lv_aload_n hx hb dX8_skipBlanks_42 rfl (lv_at hl 0 rfl) ?_
    refine va_get (D := (dC, dI)) (ci := 8) (v := .int 0) (C := RX8) (T := TX8) (N := 6) hx hb ht inX8 hown hK hP 0 rfl rfl 2 (by decide) (ht _ m_230) (fun _ h9 => h9) rfl dX8_skipBlanks_43 ?_
    refine lv_icmp_ge (tgt := 53) hx hb dX8_skipBlanks_46 (by decide) (fun c2 => ?_) (fun c2 => ?_)
    · skip
      refine lv_iconst (v := 0) hx hb dX8_skipBlanks_53 (by decide) ?_
      exact W.zret (v := 0) hx hb hr rfl (fun t ht9 hW => ⟨0, rfl, rfl, ht9⟩) (fun q hq => by cases hq) dX8_skipBlanks_54
    · exact absurd c2 (by decide)
  · exact absurd c1 (by decide)
set_option maxHeartbeats 4000000 in
set_option maxRecDepth 100000 in
/-- X8_read -/
theorem c_X8_read (l : Launch) (dC : Nat → ClassId) (dI : Nat → Nat → Nat) (sz : Nat) (h : Nat) (g : Nat → Nat → Nat) (ca : Nat → Nat → ClassId) : Met l yX8_read (wc yX8_read cX8_read 3 (some .int)) ({ frames := 1, cells := 0, slots := 0, locals := 20 } : Room) (pW (dC, dI) classes [((g 11 4), .inr (8, (o8 h g))), ((g 11 3), .inr (1, (o1 h g)))] [] sz [.ref (g 11 4)]) (va_Qi (fun r (_ : Unit) => r = 0) (fun _ t => va_P (dC, dI) classes [((g 11 4), .inr (8, (o8 h g))), ((g 11 3), .inr (1, (o1 h g)))] t.heap ∧ va_D (va_A [((g 11 4), .inr (8, (o8 h g))), ((g 11 3), .inr (1, (o1 h g)))] sz) [((g 11 4), .inr (8, (o8 h g))), ((g 11 3), .inr (1, (o1 h g)))]) (va_A [((g 11 4), .inr (8, (o8 h g))), ((g 11 3), .inr (1, (o1 h g)))] sz)) 0 0 (va_A [((g 11 4), .inr (8, (o8 h g))), ((g 11 3), .inr (1, (o1 h g)))] sz) := by
  refine Met.ofW (cc := cX8_read) (maxL := 3) (ret := (some .int)) (by decide) rfl ?_
  intro p e s m args below meth c s₁ B hml hv
  obtain ⟨rfl, hsz, hP, hK, hD0⟩ := hv
  have hx := B.exec
  have hb := B.bytes
  have hr := B.returns
  have ht := tb_tl (atoms_spec (ws := wc yX8_read cX8_read 3 (some .int)) B.pre)
  have hown : s.vm.findClass RX8 = some m.cls := findClass_of_methodNamed B.named
  have hlocks := B.notSynchronized
  subst hsz
  have hD := hD0.self (sz := s.heap.size)
  generalize hAe : va_A [((g 11 4), .inr (8, (o8 h g))), ((g 11 3), .inr (1, (o1 h g)))] s.heap.size = A at hD ⊢
  have hA : ∀ q : Nat, s.heap.size ≤ q → A q := fun q h => by rw [← hAe]; exact Or.inr h
  have hS : va_S A s.heap s.heap [] := va_S.rf
  have hP : va_P (dC, dI) classes [((g 11 4), .inr (8, (o8 h g))), ((g 11 3), .inr (1, (o1 h g)))] s.heap := hP
  have hl := lv_entry [.ref (g 11 4)] (n := 3) (Nat.le_of_ble_eq_true rfl)
  rw [lg_entry_eq]
  generalize (lg_sl [.ref (g 11 4)] ++ List.replicate (3 - (lg_sl [.ref (g 11 4)]).length) Slot.unset).toArray = ls at hl ⊢
  have hl : lv_has ls 3 [(0, .ref (g 11 4))] := hl
  refine lv_aload_n hx hb dX8_read_0 rfl (lv_at hl 0 rfl) ?_
  refine lv_iconst (v := 0) hx hb dX8_read_1 (by decide) ?_
  refine va_put (D := (dC, dI)) (ci := 8) (v := .int 0) (ty := (.int)) (C := RX8) (T := TX8) (N := 6) hx hb ht inX8 tyX8 tyX8_ok nmX8 hown hK hP hD hS 0 rfl rfl 5 (by decide) (ht _ m_235) (fun _ h9 => h9) rfl (by decide +kernel) rfl rfl (Nat.le_of_ble_eq_true rfl) dX8_read_2 (fun H locs hP hD hS => ?_)
  have hP : va_P (dC, dI) classes [((g 11 4), .inr (8, (o8 h g))), ((g 11 3), .inr (1, (o1 h g)))] H := hP
  have hD : va_D A [((g 11 4), .inr (8, (o8 h g))), ((g 11 3), .inr (1, (o1 h g)))] := hD
  refine lv_aload_n hx hb dX8_read_5 rfl (lv_at hl 0 rfl) ?_
  refine lv_iconst (v := 0) hx hb dX8_read_6 (by decide) ?_
  refine va_put (D := (dC, dI)) (ci := 8) (v := .int 0) (ty := (.int)) (C := RX8) (T := TX8) (N := 6) hx hb ht inX8 tyX8 tyX8_ok nmX8 hown hK hP hD hS 0 rfl rfl 4 (by decide) (ht _ m_234) (fun _ h9 => h9) rfl (by decide +kernel) rfl rfl (Nat.le_of_ble_eq_true rfl) dX8_read_7 (fun H locs hP hD hS => ?_)
  have hP : va_P (dC, dI) classes [((g 11 4), .inr (8, (o8 h g))), ((g 11 3), .inr (1, (o1 h g)))] H := hP
  have hD : va_D A [((g 11 4), .inr (8, (o8 h g))), ((g 11 3), .inr (1, (o1 h g)))] := hD
  refine lv_aload_n hx hb dX8_read_10 rfl (lv_at hl 0 rfl) ?_
  refine lv_iconst (v := (-1)) hx hb dX8_read_11 (by decide) ?_
  refine va_put (D := (dC, dI)) (ci := 8) (v := .int (-1)) (ty := (.int)) (C := RX8) (T := TX8) (N := 6) hx hb ht inX8 tyX8 tyX8_ok nmX8 hown hK hP hD hS 0 rfl rfl 3 (by decide) (ht _ m_232) (fun _ h9 => h9) rfl (by decide +kernel) rfl rfl (Nat.le_of_ble_eq_true rfl) dX8_read_12 (fun H locs hP hD hS => ?_)
  have hP : va_P (dC, dI) classes [((g 11 4), .inr (8, (o8 h g))), ((g 11 3), .inr (1, (o1 h g)))] H := hP
  have hD : va_D A [((g 11 4), .inr (8, (o8 h g))), ((g 11 3), .inr (1, (o1 h g)))] := hD
  refine lv_aload_n hx hb dX8_read_15 rfl (lv_at hl 0 rfl) ?_
  refine va_get (D := (dC, dI)) (ci := 8) (v := .ref (g 11 3)) (C := RX8) (T := TX8) (N := 6) hx hb ht inX8 hown hK hP 0 rfl rfl 0 (by decide) (ht _ m_228) (fun _ h9 => h9) rfl dX8_read_16 ?_
  have hPc := hP.sub (ws' := [((g 11 3), .inr (1, (o1 h g)))]) [1] rfl
  have hKc := hK.sub (tys' := []) [] rfl
  have hDc := hD.sub (ws' := [((g 11 3), .inr (1, (o1 h g)))]) [1] (by decide) rfl
  have hFc := va_free (wc := [((g 11 3), .inr (1, (o1 h g)))]) hD hS hA [1] rfl
  refine va_callv (va_runV (As := []) (rest := []) ⟨hx, hb, hml, hown, ht⟩ (c_X1_startDraft l dC dI H.size h g ca) (kV 0 ht m_684 m_685 m_686 m_81 m_687 rfl rfl hd_X1_startDraft_v ⟨Nat.le_of_ble_eq_true rfl, Nat.le_of_ble_eq_true rfl⟩) (vW hPc hKc hDc (va_recv hKc hPc (ci := 1) (q0 := 0) rfl rfl)) rfl rfl hl.1 rfl (lv_room (Nat.le_of_ble_eq_true rfl)) dX8_read_19 ⟨Nat.le_of_ble_eq_true rfl, Nat.le_of_ble_eq_true rfl⟩) hS (fun q _ h => hFc q h) hFc (fun u t H1 locs ht9 hvm hw hB hz1 hk1 hS => ?_)
  obtain ⟨hP1, hD1⟩ := hB
  rw [ht9] at hP1
  obtain ⟨hP, hD⟩ := va_join (wr := [((g 11 4), .inr (8, (o8 h g)))]) (w1 := [((g 11 3), .inr (1, (o1 h g)))]) hP hD [1] [0] rfl rfl (by decide) (by decide) hk1 hFc hP1 hD1
  generalize H1 = H at hP hS ⊢
  have hP : va_P (dC, dI) classes [((g 11 4), .inr (8, (o8 h g))), ((g 11 3), .inr (1, (o1 h g)))] H := hP
  have hD : va_D A [((g 11 4), .inr (8, (o8 h g))), ((g 11 3), .inr (1, (o1 h g)))] := hD
  refine lv_aload_n hx hb dX8_read_22 rfl (lv_at hl 0 rfl) ?_
  have hPc := hP.sub (ws' := [((g 11 4), .inr (8, (o8 h g)))]) [0] rfl
  have hKc := hK.sub (tys' := []) [] rfl
  refine vp_callSi (W.runV (As := []) (rest := []) ⟨hx, hb, hml, hown, ht⟩ (c_X8_skipBlanks l dC dI h g ca) (kV 0 ht m_688 m_690 m_16 m_82 m_691 rfl rfl hd_X8_skipBlanks_v ⟨Nat.le_of_ble_eq_true rfl, Nat.le_of_ble_eq_true rfl⟩) (vR hPc hKc (va_recv hKc hPc (ci := 8) (q0 := 0) rfl rfl)) rfl rfl hl.1 rfl (lv_room (Nat.le_of_ble_eq_true rfl)) dX8_read_23 ⟨Nat.le_of_ble_eq_true rfl, Nat.le_of_ble_eq_true rfl⟩) (fun r2 hr2 => ?_)
  obtain rfl : 0 = r2 := hr2.symm
  refine lv_istore_n (lv' := [(1, .int 0), (0, .ref (g 11 4))]) hx hb dX8_read_26 rfl hl (by decide) rfl (fun ls hl => ?_)
  refine lv_iconst (v := 0) hx hb dX8_read_27 (by decide) ?_
  refine lv_istore_n (lv' := [(2, .int 0), (1, .int 0), (0, .ref (g 11 4))]) hx hb dX8_read_28 rfl hl (by decide) rfl (fun ls hl => ?_)
  refine lv_iload_n hx hb dX8_read_29 rfl (lv_at hl 1 rfl) ?_
  refine lv_if_eq (tgt := 65) hx hb dX8_read_30 (by decide) (fun c3 => ?_) (fun c3 => ?_)
  · skip
    refine lv_aload_n hx hb dX8_read_65 rfl (lv_at hl 2 rfl) ?_
    refine lv_iconst (v := 0) hx hb dX8_read_66 (by decide) ?_
    refine va_put (D := (dC, dI)) (ci := 8) (v := .int 0) (ty := (.int)) (C := RX8) (T := TX8) (N := 6) hx hb ht inX8 tyX8 tyX8_ok nmX8 hown hK hP hD hS 0 rfl rfl 2 (by decide) (ht _ m_230) (fun _ h9 => h9) rfl (by decide +kernel) rfl rfl (Nat.le_of_ble_eq_true rfl) dX8_read_67 (fun H locs hP hD hS => ?_)
    have hP : va_P (dC, dI) classes [((g 11 4), .inr (8, (o8 h g))), ((g 11 3), .inr (1, (o1 h g)))] H := hP
    have hD : va_D A [((g 11 4), .inr (8, (o8 h g))), ((g 11 3), .inr (1, (o1 h g)))] := hD
    refine lv_aload_n hx hb dX8_read_70 rfl (lv_at hl 2 rfl) ?_
    refine va_get (D := (dC, dI)) (ci := 8) (v := .int 0) (C := RX8) (T := TX8) (N := 6) hx hb ht inX8 hown hK hP 0 rfl rfl 4 (by decide) (ht _ m_234) (fun _ h9 => h9) rfl dX8_read_71 ?_
    have hP9 := hP.sub (ws' := [((g 11 4), .inr (8, (o8 h g))), ((g 11 3), .inr (1, (o1 h g)))]) [0, 1] rfl
    have hD9 := hD.sub (ws' := [((g 11 4), .inr (8, (o8 h g))), ((g 11 3), .inr (1, (o1 h g)))]) [0, 1] (by decide) rfl
    exact W.iret (v := 0) hx hb hr (fun t ht9 hW => ⟨⟨0, (), rfl, rfl, by rw [ht9]; exact hP9, hD9⟩, hS.F ht9⟩) hS.2.2 dX8_read_74
  · exact absurd rfl c3
set_option maxHeartbeats 4000000 in
set_option maxRecDepth 100000 in
/-- X1_enact -/
theorem c_X1_enact (l : Launch) (dC : Nat → ClassId) (dI : Nat → Nat → Nat) (sz : Nat) (h : Nat) (g : Nat → Nat → Nat) (ca : Nat → Nat → ClassId) (a : Int32) : Met l yX1_enact (wc yX1_enact cX1_enact 2 (some .int)) ({ frames := 0, cells := 0, slots := 0, locals := 0 } : Room) (pW (dC, dI) classes [((g 11 3), .inr (1, (o1 h g))), ((g 1 0), .inl ((ca 1 0), 8, .inl (fun _ => 0))), ((g 1 1), .inl ((ca 1 1), 8, .inl (fun _ => 0)))] [((ca 1 0), .int), ((ca 1 1), .int)] sz [.ref (g 11 3), .int a]) (va_Qi (fun r (_ : Unit) => r = 0) (fun _ _ => True) (va_A [((g 11 3), .inr (1, (o1 h g))), ((g 1 0), .inl ((ca 1 0), 8, .inl (fun _ => 0))), ((g 1 1), .inl ((ca 1 1), 8, .inl (fun _ => 0)))] sz)) 0 0 (va_A [((g 11 3), .inr (1, (o1 h g))), ((g 1 0), .inl ((ca 1 0), 8, .inl (fun _ => 0))), ((g 1 1), .inl ((ca 1 1), 8, .inl (fun _ => 0)))] sz) := by
  refine Met.ofW (cc := cX1_enact) (maxL := 2) (ret := (some .int)) (by decide) rfl ?_
  intro p e s m args below meth c s₁ B hml hv
  obtain ⟨rfl, hsz, hP, hK, hD0⟩ := hv
  have hx := B.exec
  have hb := B.bytes
  have hr := B.returns
  have ht := tb_tl (atoms_spec (ws := wc yX1_enact cX1_enact 2 (some .int)) B.pre)
  have hown : s.vm.findClass RX1 = some m.cls := findClass_of_methodNamed B.named
  have hlocks := B.notSynchronized
  subst hsz
  have hD := hD0.self (sz := s.heap.size)
  generalize hAe : va_A [((g 11 3), .inr (1, (o1 h g))), ((g 1 0), .inl ((ca 1 0), 8, .inl (fun _ => 0))), ((g 1 1), .inl ((ca 1 1), 8, .inl (fun _ => 0)))] s.heap.size = A at hD ⊢
  have hA : ∀ q : Nat, s.heap.size ≤ q → A q := fun q h => by rw [← hAe]; exact Or.inr h
  have hS : va_S A s.heap s.heap [] := va_S.rf
  have hP : va_P (dC, dI) classes [((g 11 3), .inr (1, (o1 h g))), ((g 1 0), .inl ((ca 1 0), 8, .inl (fun _ => 0))), ((g 1 1), .inl ((ca 1 1), 8, .inl (fun _ => 0)))] s.heap := hP
  have hl := lv_entry [.ref (g 11 3), .int a] (n := 2) (Nat.le_of_ble_eq_true rfl)
  rw [lg_entry_eq]
  generalize (lg_sl [.ref (g 11 3), .int a] ++ List.replicate (2 - (lg_sl [.ref (g 11 3), .int a]).length) Slot.unset).toArray = ls at hl ⊢
  have hl : lv_has ls 2 [(0, .ref (g 11 3)), (1, .int a)] := hl
  refine lv_aload_n hx hb dX1_enact_0 rfl (lv_at hl 0 rfl) ?_
  refine va_get (D := (dC, dI)) (ci := 1) (v := .ref (g 1 0)) (C := RX1) (T := TX1) (N := 9) hx hb ht inX1 hown hK hP 0 rfl rfl 0 (by decide) (ht _ m_189) (fun _ h9 => h9) rfl dX1_enact_1 ?_
  refine lv_aload_n hx hb dX1_enact_4 rfl (lv_at hl 0 rfl) ?_
  refine va_get (D := (dC, dI)) (ci := 1) (v := .int 0) (C := RX1) (T := TX1) (N := 9) hx hb ht inX1 hown hK hP 0 rfl rfl 7 (by decide) (ht _ m_196) (fun _ h9 => h9) rfl dX1_enact_5 ?_
  refine lv_iload_n hx hb dX1_enact_8 rfl (lv_at hl 1 rfl) ?_
  refine va_iast (D := (dC, dI)) hx hb hK hP hD hS 1 0 rfl rfl (vp_in_iff.mpr (by decide)) dX1_enact_9 (fun H locs hP hD hS => ?_)
  obtain ⟨f1, hP, hD⟩ : ∃ f1 : Nat → Int32, va_P (dC, dI) classes [((g 11 3), .inr (1, (o1 h g))), ((g 1 0), .inl ((ca 1 0), 8, .inl f1)), ((g 1 1), .inl ((ca 1 1), 8, .inl (fun _ => 0)))] H ∧ va_D A [((g 11 3), .inr (1, (o1 h g))), ((g 1 0), .inl ((ca 1 0), 8, .inl f1)), ((g 1 1), .inl ((ca 1 1), 8, .inl (fun _ => 0)))] := ⟨_, hP, hD⟩
  refine lv_aload_n hx hb dX1_enact_10 rfl (lv_at hl 0 rfl) ?_
  refine va_get (D := (dC, dI)) (ci := 1) (v := .ref (g 1 1)) (C := RX1) (T := TX1) (N := 9) hx hb ht inX1 hown hK hP 0 rfl rfl 1 (by decide) (ht _ m_190) (fun _ h9 => h9) rfl dX1_enact_11 ?_
  refine lv_aload_n hx hb dX1_enact_14 rfl (lv_at hl 0 rfl) ?_
  refine va_get (D := (dC, dI)) (ci := 1) (v := .int 0) (C := RX1) (T := TX1) (N := 9) hx hb ht inX1 hown hK hP 0 rfl rfl 7 (by decide) (ht _ m_196) (fun _ h9 => h9) rfl dX1_enact_15 ?_
  refine lv_aload_n hx hb dX1_enact_18 rfl (lv_at hl 0 rfl) ?_
  refine va_get (D := (dC, dI)) (ci := 1) (v := .int 0) (C := RX1) (T := TX1) (N := 9) hx hb ht inX1 hown hK hP 0 rfl rfl 8 (by decide) (ht _ m_199) (fun _ h9 => h9) rfl dX1_enact_19 ?_
  refine va_iast (D := (dC, dI)) hx hb hK hP hD hS 2 1 rfl rfl (vp_in_iff.mpr (by decide)) dX1_enact_22 (fun H locs hP hD hS => ?_)
  obtain ⟨f2, hP, hD⟩ : ∃ f2 : Nat → Int32, va_P (dC, dI) classes [((g 11 3), .inr (1, (o1 h g))), ((g 1 0), .inl ((ca 1 0), 8, .inl f1)), ((g 1 1), .inl ((ca 1 1), 8, .inl f2))] H ∧ va_D A [((g 11 3), .inr (1, (o1 h g))), ((g 1 0), .inl ((ca 1 0), 8, .inl f1)), ((g 1 1), .inl ((ca 1 1), 8, .inl f2))] := ⟨_, hP, hD⟩
  refine lv_aload_n hx hb dX1_enact_23 rfl (lv_at hl 0 rfl) ?_
  refine lv_dup hx hb dX1_enact_24 rfl ?_
  refine va_get (D := (dC, dI)) (ci := 1) (v := .int 0) (C := RX1) (T := TX1) (N := 9) hx hb ht inX1 hown hK hP 0 rfl rfl 7 (by decide) (ht _ m_196) (fun _ h9 => h9) rfl dX1_enact_25 ?_
  refine lv_iconst (v := 1) hx hb dX1_enact_28 (by decide) ?_
  refine lv_iadd hx hb dX1_enact_29 ?_
  refine lv_topi (fun v3 ev3 => ?_)
  obtain rfl : 1 = v3 := (ev3.trans (by decide)).symm
  refine va_put (D := (dC, dI)) (ci := 1) (v := .int 1) (ty := (.int)) (C := RX1) (T := TX1) (N := 9) hx hb ht inX1 tyX1 tyX1_ok nmX1 hown hK hP hD hS 0 rfl rfl 7 (by decide) (ht _ m_196) (fun _ h9 => h9) rfl (by decide +kernel) rfl rfl (Nat.le_of_ble_eq_true rfl) dX1_enact_30 (fun H locs hP hD hS => ?_)
  have hP : va_P (dC, dI) classes [((g 11 3), .inr (1, ((o1 h g).set 7 (.int 1)))), ((g 1 0), .inl ((ca 1 0), 8, .inl f1)), ((g 1 1), .inl ((ca 1 1), 8, .inl f2))] H := hP
  have hD : va_D A [((g 11 3), .inr (1, ((o1 h g).set 7 (.int 1)))), ((g 1 0), .inl ((ca 1 0), 8, .inl f1)), ((g 1 1), .inl ((ca 1 1), 8, .inl f2))] := hD
  refine lv_aload_n hx hb dX1_enact_33 rfl (lv_at hl 0 rfl) ?_
  refine va_get (D := (dC, dI)) (ci := 1) (v := .int 1) (C := RX1) (T := TX1) (N := 9) hx hb ht inX1 hown hK hP 0 rfl rfl 7 (by decide) (ht _ m_196) (fun _ h9 => h9) rfl dX1_enact_34 ?_
  refine lv_iconst (v := 1) hx hb dX1_enact_37 (by decide) ?_
  refine lv_isub hx hb dX1_enact_38 ?_
  refine lv_topi (fun v4 ev4 => ?_)
  obtain rfl : 0 = v4 := (ev4.trans (by decide)).symm
  exact W.iret (v := 0) hx hb hr (fun t ht9 hW => ⟨⟨0, (), rfl, rfl, trivial⟩, hS.F ht9⟩) hS.2.2 dX1_enact_39
set_option maxHeartbeats 4000000 in
set_option maxRecDepth 100000 in
/-- X1_findCounting -/
theorem c_X1_findCounting (l : Launch) (dC : Nat → ClassId) (dI : Nat → Nat → Nat) (h : Nat) (g : Nat → Nat → Nat) (ca : Nat → Nat → ClassId) (a : Int32) : Met l yX1_findCounting (wc yX1_findCounting cX1_findCounting 3 none) ({ frames := 0, cells := 0, slots := 0, locals := 0 } : Room) (pR (dC, dI) classes [((g 11 3), .inr (1, (o1 h g)))] [] [.ref (g 11 3), .int a]) (va_Sv (fun _ => True)) 0 0 (fun _ => False) := by
  refine Met.ofW (cc := cX1_findCounting) (maxL := 3) (ret := none) (by decide) rfl ?_
  intro p e s m args below meth c s₁ B hml hv
  obtain ⟨rfl, hP, hK⟩ := hv
  have hx := B.exec
  have hb := B.bytes
  have hr := B.returns
  have ht := tb_tl (atoms_spec (ws := wc yX1_findCounting cX1_findCounting 3 none) B.pre)
  have hown : s.vm.findClass RX1 = some m.cls := findClass_of_methodNamed B.named
  have hlocks := B.notSynchronized
  have hl := lv_entry [.ref (g 11 3), .int a] (n := 3) (Nat.le_of_ble_eq_true rfl)
  rw [lg_entry_eq]
  generalize (lg_sl [.ref (g 11 3), .int a] ++ List.replicate (3 - (lg_sl [.ref (g 11 3), .int a]).length) Slot.unset).toArray = ls at hl ⊢
  have hl : lv_has ls 3 [(0, .ref (g 11 3)), (1, .int a)] := hl
  refine lv_aload_n hx hb dX1_findCounting_0 rfl (lv_at hl 0 rfl) ?_
  refine va_get (D := (dC, dI)) (ci := 1) (v := .int 0) (C := RX1) (T := TX1) (N := 9) hx hb ht inX1 hown hK hP 0 rfl rfl 7 (by decide) (ht _ m_196) (fun _ h9 => h9) rfl dX1_findCounting_1 ?_
  refine lv_iconst (v := 1) hx hb dX1_findCounting_4 (by decide) ?_
  refine lv_isub hx hb dX1_findCounting_5 ?_
  refine lv_topi (fun v1 ev1 => ?_)
  obtain rfl : (-1) = v1 := (ev1.trans (by decide)).symm
  refine lv_istore_n (lv' := [(2, .int (-1)), (0, .ref (g 11 3)), (1, .int a)]) hx hb dX1_findCounting_6 rfl hl (by decide) rfl (fun ls hl => ?_)
  refine lv_iload_n hx hb dX1_findCounting_7 rfl (lv_at hl 0 rfl) ?_
  refine lv_if_lt (tgt := 46) hx hb dX1_findCounting_8 (by decide) (fun c2 => ?_) (fun c2 => ?_)
  · skip
    exact W.vret hx hb hr (fun t ht9 hW => ⟨rfl, trivial, ht9⟩) (fun q hq => by cases hq) dX1_findCounting_46
  · exact absurd c2 (by decide)
set_option maxHeartbeats 4000000 in
set_option maxRecDepth 100000 in
/-- X1_holding -/
theorem c_X1_holding (l : Launch) (dC : Nat → ClassId) (dI : Nat → Nat → Nat) (h : Nat) (g : Nat → Nat → Nat) (ca : Nat → Nat → ClassId) (a : Int32) (b : Int32) (h_a : 0 ≤ a.toInt ∧ a.toInt ≤ 5) : Met l yX1_holding (wc yX1_holding cX1_holding 7 (some .int)) ({ frames := 1, cells := 0, slots := 0, locals := 22 } : Room) (va_Pc [.ref (g 11 3), .int a, .int b] (fun U => va_P (dC, dI) classes [((g 11 3), .inr (1, (o1 h g)))] U.heap ∧ va_K (dC, dI) classes [] U ∧ zAF U)) (vp_Si (fun r => r = F_atF a)) 0 0 (fun _ => False) := by
  refine Met.ofW (cc := cX1_holding) (maxL := 7) (ret := (some .int)) (by decide) rfl ?_
  intro p e s m args below meth c s₁ B hml hv
  obtain ⟨rfl, hP, hK, hZ⟩ := hv
  have hx := B.exec
  have hb := B.bytes
  have hr := B.returns
  have ht := tb_tl (atoms_spec (ws := wc yX1_holding cX1_holding 7 (some .int)) B.pre)
  have hown : s.vm.findClass RX1 = some m.cls := findClass_of_methodNamed B.named
  have hlocks := B.notSynchronized
  have hl := lv_entry [.ref (g 11 3), .int a, .int b] (n := 7) (Nat.le_of_ble_eq_true rfl)
  rw [lg_entry_eq]
  generalize (lg_sl [.ref (g 11 3), .int a, .int b] ++ List.replicate (7 - (lg_sl [.ref (g 11 3), .int a, .int b]).length) Slot.unset).toArray = ls at hl ⊢
  have hl : lv_has ls 7 [(0, .ref (g 11 3)), (1, .int a), (2, .int b)] := hl
  refine lv_aload_n hx hb dX1_holding_0 rfl (lv_at hl 0 rfl) ?_
  refine lv_iload_n hx hb dX1_holding_1 rfl (lv_at hl 2 rfl) ?_
  have hPc := hP.sub (ws' := [((g 11 3), .inr (1, (o1 h g)))]) [0] rfl
  have hKc := hK.sub (tys' := []) [] rfl
  refine va_csv (W.runV (As := [.int b]) (rest := []) ⟨hx, hb, hml, hown, ht⟩ (c_X1_findCounting l dC dI h g ca b) (kV 1 ht m_604 m_606 m_5 m_81 m_607 rfl rfl hd_X1_findCounting_v ⟨Nat.le_of_ble_eq_true rfl, Nat.le_of_ble_eq_true rfl⟩) (vR hPc hKc (va_recv hKc hPc (ci := 1) (q0 := 0) rfl rfl)) rfl rfl hl.1 rfl (lv_room (Nat.le_of_ble_eq_true rfl)) dX1_holding_2 ⟨Nat.le_of_ble_eq_true rfl, Nat.le_of_ble_eq_true rfl⟩) (fun _ => ?_)
  obtain ⟨tz, hz1, hz2⟩ := hZ
  refine va_gets (A := fun _ => False) hx hb hz1 va_S.rf hown (ht _ m_616) (fun _ h9 => h9) dX1_holding_5 ?_
  refine lv_iload_n hx hb dX1_holding_8 rfl (lv_at hl 1 rfl) ?_
  refine va_ti (A := fun _ => False) (v := .int (F_AFT a.toNatClampNeg)) hx hb hz2 va_S.rf (vp_in_iff.mpr ⟨by omega, by omega⟩) rfl dX1_holding_9 ?_
  refine lv_topi (fun v2 ev2 => ?_)
  obtain rfl : F_atF a = v2 := (ev2.trans (F_AFT_eq (by omega))).symm
  refine lv_istore_n (lv' := [(3, .int (F_atF a)), (0, .ref (g 11 3)), (1, .int a), (2, .int b)]) hx hb dX1_holding_10 rfl hl (by decide) rfl (fun ls hl => ?_)
  refine lv_iconst (v := (-1)) hx hb dX1_holding_11 (by decide) ?_
  refine lv_istore (lv' := [(4, .int (-1)), (3, .int (F_atF a)), (0, .ref (g 11 3)), (1, .int a), (2, .int b)]) hx hb dX1_holding_12 hl (by decide) rfl (fun ls hl => ?_)
  refine lv_iconst (v := 0) hx hb dX1_holding_14 (by decide) ?_
  refine lv_istore (lv' := [(5, .int 0), (4, .int (-1)), (3, .int (F_atF a)), (0, .ref (g 11 3)), (1, .int a), (2, .int b)]) hx hb dX1_holding_15 hl (by decide) rfl (fun ls hl => ?_)
  refine lv_iload hx hb dX1_holding_17 (lv_at hl 0 rfl) ?_
  refine lv_aload_n hx hb dX1_holding_19 rfl (lv_at hl 3 rfl) ?_
  refine va_get (D := (dC, dI)) (ci := 1) (v := .int 0) (C := RX1) (T := TX1) (N := 9) hx hb ht inX1 hown hK hP 0 rfl rfl 7 (by decide) (ht _ m_196) (fun _ h9 => h9) rfl dX1_holding_20 ?_
  refine lv_icmp_ge (tgt := 86) hx hb dX1_holding_23 (by decide) (fun c3 => ?_) (fun c3 => ?_)
  · skip
    refine lv_iload_n hx hb dX1_holding_86 rfl (lv_at hl 2 rfl) ?_
    exact W.iret (v := (F_atF a)) hx hb hr (fun t ht9 hW => ⟨(F_atF a), rfl, rfl, ht9⟩) (fun q hq => by cases hq) dX1_holding_87
  · exact absurd c3 (by decide)
set_option maxHeartbeats 4000000 in
set_option maxRecDepth 100000 in
/-- X5_bring -/
theorem c_X5_bring (l : Launch) (dC : Nat → ClassId) (dI : Nat → Nat → Nat) (sz : Nat) (h : Nat) (g : Nat → Nat → Nat) (ca : Nat → Nat → ClassId) (a : Int32) : Met l yX5_bring (wc yX5_bring cX5_bring 2 (some .int)) ({ frames := 0, cells := 0, slots := 0, locals := 0 } : Room) (pW (dC, dI) classes [((g 11 7), .inr (5, (o5 h g))), ((g 5 0), .inl ((ca 5 0), 8, .inl (fun _ => 0)))] [((ca 5 0), .int)] sz [.ref (g 11 7), .int a]) (va_Qi (fun r (_ : Unit) => r = 1) (fun _ _ => True) (va_A [((g 11 7), .inr (5, (o5 h g))), ((g 5 0), .inl ((ca 5 0), 8, .inl (fun _ => 0)))] sz)) 0 0 (va_A [((g 11 7), .inr (5, (o5 h g))), ((g 5 0), .inl ((ca 5 0), 8, .inl (fun _ => 0)))] sz) := by
  refine Met.ofW (cc := cX5_bring) (maxL := 2) (ret := (some .int)) (by decide) rfl ?_
  intro p e s m args below meth c s₁ B hml hv
  obtain ⟨rfl, hsz, hP, hK, hD0⟩ := hv
  have hx := B.exec
  have hb := B.bytes
  have hr := B.returns
  have ht := tb_tl (atoms_spec (ws := wc yX5_bring cX5_bring 2 (some .int)) B.pre)
  have hown : s.vm.findClass RX5 = some m.cls := findClass_of_methodNamed B.named
  have hlocks := B.notSynchronized
  subst hsz
  have hD := hD0.self (sz := s.heap.size)
  generalize hAe : va_A [((g 11 7), .inr (5, (o5 h g))), ((g 5 0), .inl ((ca 5 0), 8, .inl (fun _ => 0)))] s.heap.size = A at hD ⊢
  have hA : ∀ q : Nat, s.heap.size ≤ q → A q := fun q h => by rw [← hAe]; exact Or.inr h
  have hS : va_S A s.heap s.heap [] := va_S.rf
  have hP : va_P (dC, dI) classes [((g 11 7), .inr (5, (o5 h g))), ((g 5 0), .inl ((ca 5 0), 8, .inl (fun _ => 0)))] s.heap := hP
  have hl := lv_entry [.ref (g 11 7), .int a] (n := 2) (Nat.le_of_ble_eq_true rfl)
  rw [lg_entry_eq]
  generalize (lg_sl [.ref (g 11 7), .int a] ++ List.replicate (2 - (lg_sl [.ref (g 11 7), .int a]).length) Slot.unset).toArray = ls at hl ⊢
  have hl : lv_has ls 2 [(0, .ref (g 11 7)), (1, .int a)] := hl
  refine lv_aload_n hx hb dX5_bring_0 rfl (lv_at hl 0 rfl) ?_
  refine va_get (D := (dC, dI)) (ci := 5) (v := .ref (g 5 0)) (C := RX5) (T := TX5) (N := 7) hx hb ht inX5 hown hK hP 0 rfl rfl 0 (by decide) (ht _ m_335) (fun _ h9 => h9) rfl dX5_bring_1 ?_
  refine lv_aload_n hx hb dX5_bring_4 rfl (lv_at hl 0 rfl) ?_
  refine va_get (D := (dC, dI)) (ci := 5) (v := .int 0) (C := RX5) (T := TX5) (N := 7) hx hb ht inX5 hown hK hP 0 rfl rfl 4 (by decide) (ht _ m_340) (fun _ h9 => h9) rfl dX5_bring_5 ?_
  refine lv_iload_n hx hb dX5_bring_8 rfl (lv_at hl 1 rfl) ?_
  refine va_iast (D := (dC, dI)) hx hb hK hP hD hS 1 0 rfl rfl (vp_in_iff.mpr (by decide)) dX5_bring_9 (fun H locs hP hD hS => ?_)
  obtain ⟨f1, hP, hD⟩ : ∃ f1 : Nat → Int32, va_P (dC, dI) classes [((g 11 7), .inr (5, (o5 h g))), ((g 5 0), .inl ((ca 5 0), 8, .inl f1))] H ∧ va_D A [((g 11 7), .inr (5, (o5 h g))), ((g 5 0), .inl ((ca 5 0), 8, .inl f1))] := ⟨_, hP, hD⟩
  refine lv_aload_n hx hb dX5_bring_10 rfl (lv_at hl 0 rfl) ?_
  refine lv_dup hx hb dX5_bring_11 rfl ?_
  refine va_get (D := (dC, dI)) (ci := 5) (v := .int 0) (C := RX5) (T := TX5) (N := 7) hx hb ht inX5 hown hK hP 0 rfl rfl 4 (by decide) (ht _ m_340) (fun _ h9 => h9) rfl dX5_bring_12 ?_
  refine lv_iconst (v := 1) hx hb dX5_bring_15 (by decide) ?_
  refine lv_iadd hx hb dX5_bring_16 ?_
  refine lv_topi (fun v2 ev2 => ?_)
  obtain rfl : 1 = v2 := (ev2.trans (by decide)).symm
  refine va_put (D := (dC, dI)) (ci := 5) (v := .int 1) (ty := (.int)) (C := RX5) (T := TX5) (N := 7) hx hb ht inX5 tyX5 tyX5_ok nmX5 hown hK hP hD hS 0 rfl rfl 4 (by decide) (ht _ m_340) (fun _ h9 => h9) rfl (by decide +kernel) rfl rfl (Nat.le_of_ble_eq_true rfl) dX5_bring_17 (fun H locs hP hD hS => ?_)
  have hP : va_P (dC, dI) classes [((g 11 7), .inr (5, ((o5 h g).set 4 (.int 1)))), ((g 5 0), .inl ((ca 5 0), 8, .inl f1))] H := hP
  have hD : va_D A [((g 11 7), .inr (5, ((o5 h g).set 4 (.int 1)))), ((g 5 0), .inl ((ca 5 0), 8, .inl f1))] := hD
  refine lv_aload_n hx hb dX5_bring_20 rfl (lv_at hl 0 rfl) ?_
  refine lv_iconst (v := 0) hx hb dX5_bring_21 (by decide) ?_
  refine va_put (D := (dC, dI)) (ci := 5) (v := .int 0) (ty := (.int)) (C := RX5) (T := TX5) (N := 7) hx hb ht inX5 tyX5 tyX5_ok nmX5 hown hK hP hD hS 0 rfl rfl 6 (by decide) (ht _ m_344) (fun _ h9 => h9) rfl (by decide +kernel) rfl rfl (Nat.le_of_ble_eq_true rfl) dX5_bring_22 (fun H locs hP hD hS => ?_)
  have hP : va_P (dC, dI) classes [((g 11 7), .inr (5, ((o5 h g).set 4 (.int 1)))), ((g 5 0), .inl ((ca 5 0), 8, .inl f1))] H := hP
  have hD : va_D A [((g 11 7), .inr (5, ((o5 h g).set 4 (.int 1)))), ((g 5 0), .inl ((ca 5 0), 8, .inl f1))] := hD
  refine lv_aload_n hx hb dX5_bring_25 rfl (lv_at hl 0 rfl) ?_
  refine va_get (D := (dC, dI)) (ci := 5) (v := .int 1) (C := RX5) (T := TX5) (N := 7) hx hb ht inX5 hown hK hP 0 rfl rfl 4 (by decide) (ht _ m_340) (fun _ h9 => h9) rfl dX5_bring_26 ?_
  exact W.iret (v := 1) hx hb hr (fun t ht9 hW => ⟨⟨1, (), rfl, rfl, trivial⟩, hS.F ht9⟩) hS.2.2 dX5_bring_29
set_option maxHeartbeats 4000000 in
set_option maxRecDepth 100000 in
/-- X5_clear -/
theorem c_X5_clear (l : Launch) (dC : Nat → ClassId) (dI : Nat → Nat → Nat) (sz : Nat) (h : Nat) (g : Nat → Nat → Nat) (ca : Nat → Nat → ClassId) : Met l yX5_clear (wc yX5_clear cX5_clear 2 (some .int)) ({ frames := 0, cells := 0, slots := 0, locals := 0 } : Room) (pW (dC, dI) classes [((g 11 7), .inr (5, (o5 h g)))] [] sz [.ref (g 11 7)]) (va_Qi (fun r (_ : Unit) => r = 0) (fun _ _ => True) (va_A [((g 11 7), .inr (5, (o5 h g)))] sz)) 0 0 (va_A [((g 11 7), .inr (5, (o5 h g)))] sz) := by
  refine Met.ofW (cc := cX5_clear) (maxL := 2) (ret := (some .int)) (by decide) rfl ?_
  intro p e s m args below meth c s₁ B hml hv
  obtain ⟨rfl, hsz, hP, hK, hD0⟩ := hv
  have hx := B.exec
  have hb := B.bytes
  have hr := B.returns
  have ht := tb_tl (atoms_spec (ws := wc yX5_clear cX5_clear 2 (some .int)) B.pre)
  have hown : s.vm.findClass RX5 = some m.cls := findClass_of_methodNamed B.named
  have hlocks := B.notSynchronized
  subst hsz
  have hD := hD0.self (sz := s.heap.size)
  generalize hAe : va_A [((g 11 7), .inr (5, (o5 h g)))] s.heap.size = A at hD ⊢
  have hA : ∀ q : Nat, s.heap.size ≤ q → A q := fun q h => by rw [← hAe]; exact Or.inr h
  have hS : va_S A s.heap s.heap [] := va_S.rf
  have hP : va_P (dC, dI) classes [((g 11 7), .inr (5, (o5 h g)))] s.heap := hP
  have hl := lv_entry [.ref (g 11 7)] (n := 2) (Nat.le_of_ble_eq_true rfl)
  rw [lg_entry_eq]
  generalize (lg_sl [.ref (g 11 7)] ++ List.replicate (2 - (lg_sl [.ref (g 11 7)]).length) Slot.unset).toArray = ls at hl ⊢
  have hl : lv_has ls 2 [(0, .ref (g 11 7))] := hl
  refine lv_aload_n hx hb dX5_clear_0 rfl (lv_at hl 0 rfl) ?_
  refine va_get (D := (dC, dI)) (ci := 5) (v := .int 0) (C := RX5) (T := TX5) (N := 7) hx hb ht inX5 hown hK hP 0 rfl rfl 4 (by decide) (ht _ m_340) (fun _ h9 => h9) rfl dX5_clear_1 ?_
  refine lv_istore_n (lv' := [(1, .int 0), (0, .ref (g 11 7))]) hx hb dX5_clear_4 rfl hl (by decide) rfl (fun ls hl => ?_)
  refine lv_aload_n hx hb dX5_clear_5 rfl (lv_at hl 1 rfl) ?_
  refine lv_iconst (v := 0) hx hb dX5_clear_6 (by decide) ?_
  refine va_put (D := (dC, dI)) (ci := 5) (v := .int 0) (ty := (.int)) (C := RX5) (T := TX5) (N := 7) hx hb ht inX5 tyX5 tyX5_ok nmX5 hown hK hP hD hS 0 rfl rfl 4 (by decide) (ht _ m_340) (fun _ h9 => h9) rfl (by decide +kernel) rfl rfl (Nat.le_of_ble_eq_true rfl) dX5_clear_7 (fun H locs hP hD hS => ?_)
  have hP : va_P (dC, dI) classes [((g 11 7), .inr (5, (o5 h g)))] H := hP
  have hD : va_D A [((g 11 7), .inr (5, (o5 h g)))] := hD
  refine lv_aload_n hx hb dX5_clear_10 rfl (lv_at hl 1 rfl) ?_
  refine lv_iconst (v := 0) hx hb dX5_clear_11 (by decide) ?_
  refine va_put (D := (dC, dI)) (ci := 5) (v := .int 0) (ty := (.int)) (C := RX5) (T := TX5) (N := 7) hx hb ht inX5 tyX5 tyX5_ok nmX5 hown hK hP hD hS 0 rfl rfl 6 (by decide) (ht _ m_344) (fun _ h9 => h9) rfl (by decide +kernel) rfl rfl (Nat.le_of_ble_eq_true rfl) dX5_clear_12 (fun H locs hP hD hS => ?_)
  have hP : va_P (dC, dI) classes [((g 11 7), .inr (5, (o5 h g)))] H := hP
  have hD : va_D A [((g 11 7), .inr (5, (o5 h g)))] := hD
  refine lv_iload_n hx hb dX5_clear_15 rfl (lv_at hl 0 rfl) ?_
  exact W.iret (v := 0) hx hb hr (fun t ht9 hW => ⟨⟨0, (), rfl, rfl, trivial⟩, hS.F ht9⟩) hS.2.2 dX5_clear_16
