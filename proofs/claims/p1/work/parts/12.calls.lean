set_option maxHeartbeats 4000000 in
set_option maxRecDepth 100000 in
/-- X12_feed -/
theorem c_X12_feed (l : Launch) (dC : Nat → ClassId) (dI : Nat → Nat → Nat) (sz : Nat) (h : Nat) (g : Nat → Nat → Nat) (ca : Nat → Nat → ClassId) (n : Int32) (k : Int64) : Met l yX12_feed (wc yX12_feed cX12_feed 5 (some .int)) ({ frames := 1, cells := 0, slots := 0, locals := 25 } : Room) (pW (dC, dI) classes [(h, .inr (12, (o12 h g))), ((g 12 32), .inl ((ca 12 32), 200, .inl (fun _ => 0)))] [((ca 12 32), .int)] sz [.ref h, .int n, .long k]) (va_Qi (fun r (_ : Unit) => r = F_feed n) (fun _ _ => True) (va_A [(h, .inr (12, (o12 h g))), ((g 12 32), .inl ((ca 12 32), 200, .inl (fun _ => 0)))] sz)) 0 0 (va_A [(h, .inr (12, (o12 h g))), ((g 12 32), .inl ((ca 12 32), 200, .inl (fun _ => 0)))] sz) := by
  refine Met.ofW (cc := cX12_feed) (maxL := 5) (ret := (some .int)) (by decide) rfl ?_
  intro p e s m args below meth c s₁ B hml hv
  obtain ⟨rfl, hsz, hP, hK, hD0⟩ := hv
  have hx := B.exec
  have hb := B.bytes
  have hr := B.returns
  have ht := tb_tl (atoms_spec (ws := wc yX12_feed cX12_feed 5 (some .int)) B.pre)
  have hown : s.vm.findClass RX12 = some m.cls := findClass_of_methodNamed B.named
  have hlocks := B.notSynchronized
  subst hsz
  have hD := hD0.self (sz := s.heap.size)
  generalize hAe : va_A [(h, .inr (12, (o12 h g))), ((g 12 32), .inl ((ca 12 32), 200, .inl (fun _ => 0)))] s.heap.size = A at hD ⊢
  have hA : ∀ q : Nat, s.heap.size ≤ q → A q := fun q h => by rw [← hAe]; exact Or.inr h
  have hS : va_S A s.heap s.heap [] := va_S.rf
  have hP : va_P (dC, dI) classes [(h, .inr (12, (o12 h g))), ((g 12 32), .inl ((ca 12 32), 200, .inl (fun _ => 0)))] s.heap := hP
  have hl := lv_entry [.ref h, .int n, .long k] (n := 5) (Nat.le_of_ble_eq_true rfl)
  rw [lg_entry_eq]
  generalize (lg_sl [.ref h, .int n, .long k] ++ List.replicate (5 - (lg_sl [.ref h, .int n, .long k]).length) Slot.unset).toArray = ls at hl ⊢
  have hl : lv_has ls 5 [(0, .ref h), (1, .int n), (2, .long k)] := hl
  refine lv_iload_n hx hb dX12_feed_0 rfl (lv_at hl 1 rfl) ?_
  refine lv_i2l (v := (n.toInt64)) hx hb dX12_feed_1 rfl ?_
  refine lv_lconst (v := 1) hx hb dX12_feed_2 (by decide) ?_
  refine lv_ldc2 hx hb hown (ht _ m_1452) dX12_feed_3 ?_
  have hPc := hP.sub (ws' := []) [] rfl
  have hKc := hK.sub (tys' := []) [] rfl
  refine vp_callSi (W.runS (As := [.long (n.toInt64), .long 1, .long 8]) (rest := []) ⟨hx, hb, hml, hown, ht⟩ (c_X12_in l dC dI (n.toInt64) 1 8 (n.toInt) (1) (8) ((Int32.toInt_toInt64 n).trans rfl) (by decide : (1 : Int64).toInt = 1) (by decide : (8 : Int64).toInt = 8)) (kS 3 ht m_1370 m_1371 m_89 m_1372 rfl rfl hd_X12_in_v ⟨Nat.le_of_ble_eq_true rfl, Nat.le_of_ble_eq_true rfl⟩) (sR hPc hKc) rfl rfl hl.1 rfl (lv_room (Nat.le_of_ble_eq_true rfl)) dX12_feed_6 ⟨Nat.le_of_ble_eq_true rfl, Nat.le_of_ble_eq_true rfl⟩) (fun r1 hr1 => ?_)
  rcases hr1 with ⟨rfl, fr1⟩ | ⟨rfl, fr1⟩
  · skip
    refine lv_if_ne (tgt := 15) hx hb dX12_feed_9 (by decide) (fun c2 => ?_) (fun c2 => ?_)
    · skip
      refine lv_aload_n hx hb dX12_feed_15 rfl (lv_at hl 0 rfl) ?_
      refine va_get (D := (dC, dI)) (ci := 12) (v := .int 0) (C := RX12) (T := TX12) (N := 75) hx hb ht inX12 hown hK hP 0 rfl rfl 33 (by decide) (ht _ m_1172) (fun _ h9 => h9) rfl dX12_feed_16 ?_
      refine lv_iload_n hx hb dX12_feed_19 rfl (lv_at hl 1 rfl) ?_
      refine lv_iadd hx hb dX12_feed_20 ?_
      refine lv_topi (fun v3 ev3 => ?_)
      obtain rfl : n = v3 := (ev3.trans (Int32.zero_add _)).symm
      refine lv_sipush (v := 200) hx hb dX12_feed_21 (by decide) ?_
      refine lv_icmp_le (tgt := 30) hx hb dX12_feed_24 (by decide) (fun c4 => ?_) (fun c4 => ?_)
      · skip
        refine lv_iload_n hx hb dX12_feed_30 rfl (lv_at hl 1 rfl) ?_
        refine lv_iconst (v := 1) hx hb dX12_feed_31 (by decide) ?_
        refine lv_isub hx hb dX12_feed_32 ?_
        refine lv_topi (fun v5 ev5 => ?_)
        have tv5 := z_sub ev5 (rfl : (n).toInt = _) (by decide : (1 : Int32).toInt = 1) (by omega) (by omega)
        refine lv_istore (lv' := [(4, .int v5), (0, .ref h), (1, .int n), (2, .long k)]) hx hb dX12_feed_33 hl (by decide) rfl (fun ls hl => ?_)
        refine lv_iload hx hb dX12_feed_35 (lv_at hl 0 rfl) ?_
        refine lv_if_lt (tgt := 77) hx hb dX12_feed_37 (by decide) (fun c6 => ?_) (fun c6 => ?_)
        · have fc6 := z_lt (rfl : (v5).toInt = _) (by decide : (0 : Int32).toInt = 0) c6; exfalso; omega
        · skip
          refine lv_aload_n hx hb dX12_feed_40 rfl (lv_at hl 1 rfl) ?_
          refine va_get (D := (dC, dI)) (ci := 12) (v := .ref (g 12 32)) (C := RX12) (T := TX12) (N := 75) hx hb ht inX12 hown hK hP 0 rfl rfl 32 (by decide) (ht _ m_1171) (fun _ h9 => h9) rfl dX12_feed_41 ?_
          refine lv_aload_n hx hb dX12_feed_44 rfl (lv_at hl 1 rfl) ?_
          refine va_get (D := (dC, dI)) (ci := 12) (v := .int 0) (C := RX12) (T := TX12) (N := 75) hx hb ht inX12 hown hK hP 0 rfl rfl 33 (by decide) (ht _ m_1172) (fun _ h9 => h9) rfl dX12_feed_45 ?_
          refine lv_lload_n hx hb dX12_feed_48 rfl (lv_at hl 3 rfl) ?_
          refine lv_bipush (v := 8) hx hb dX12_feed_49 (by decide) ?_
          refine lv_iload hx hb dX12_feed_51 (lv_at hl 0 rfl) ?_
          refine lv_imul hx hb dX12_feed_53 ?_
          refine lv_topi (fun v7 ev7 => ?_)
          obtain ⟨w8, ew8⟩ : ∃ y : Int64, k >>> ((v7 : Int32).toInt64 &&& 63) = y := ⟨_, rfl⟩
          refine lv_lshr (v := w8) hx hb dX12_feed_54 ew8 ?_
          refine lv_ldc2 hx hb hown (ht _ m_1453) dX12_feed_55 ?_
          refine lv_land hx hb dX12_feed_58 ?_
          refine lv_topl (fun w9 ew9 => ?_)
          obtain ⟨v10, ev10⟩ : ∃ y : Int32, w9.toInt32 = y := ⟨_, rfl⟩
          refine lv_l2i (v := v10) hx hb dX12_feed_59 ev10 ?_
          refine va_iast (D := (dC, dI)) hx hb hK hP hD hS 1 0 rfl rfl (vp_in_iff.mpr (by decide)) dX12_feed_60 (fun H locs hP hD hS => ?_)
          obtain ⟨f11, hP, hD⟩ : ∃ f11 : Nat → Int32, va_P (dC, dI) classes [(h, .inr (12, (o12 h g))), ((g 12 32), .inl ((ca 12 32), 200, .inl f11))] H ∧ va_D A [(h, .inr (12, (o12 h g))), ((g 12 32), .inl ((ca 12 32), 200, .inl f11))] := ⟨_, hP, hD⟩
          refine lv_aload_n hx hb dX12_feed_61 rfl (lv_at hl 1 rfl) ?_
          refine lv_dup hx hb dX12_feed_62 rfl ?_
          refine va_get (D := (dC, dI)) (ci := 12) (v := .int 0) (C := RX12) (T := TX12) (N := 75) hx hb ht inX12 hown hK hP 0 rfl rfl 33 (by decide) (ht _ m_1172) (fun _ h9 => h9) rfl dX12_feed_63 ?_
          refine lv_iconst (v := 1) hx hb dX12_feed_66 (by decide) ?_
          refine lv_iadd hx hb dX12_feed_67 ?_
          refine lv_topi (fun v12 ev12 => ?_)
          obtain rfl : 1 = v12 := (ev12.trans (by decide)).symm
          refine va_put (D := (dC, dI)) (ci := 12) (v := .int 1) (ty := (.int)) (C := RX12) (T := TX12) (N := 75) hx hb ht inX12 tyX12 tyX12_ok nmX12 hown hK hP hD hS 0 rfl rfl 33 (by decide) (ht _ m_1172) (fun _ h9 => h9) rfl (by decide +kernel) rfl rfl (Nat.le_of_ble_eq_true rfl) dX12_feed_68 (fun H locs hP hD hS => ?_)
          have hP : va_P (dC, dI) classes [(h, .inr (12, ((o12 h g).set 33 (.int 1)))), ((g 12 32), .inl ((ca 12 32), 200, .inl f11))] H := hP
          have hD : va_D A [(h, .inr (12, ((o12 h g).set 33 (.int 1)))), ((g 12 32), .inl ((ca 12 32), 200, .inl f11))] := hD
          obtain ⟨v13, ev13⟩ : ∃ y : Int32, y = v5 + (-1) := ⟨_, rfl⟩
          have tv13 := z_add ev13 rfl (by decide : ((-1) : Int32).toInt = (-1)) (by omega) (by omega)
          refine lv_iinc (v := v13) (lv' := [(4, .int v13), (0, .ref h), (1, .int n), (2, .long k)]) hx hb dX12_feed_71 hl (k := 0) rfl (by rw [ev13]; rfl) (by decide) rfl (fun ls hl => ?_)
          refine lv_goto (tgt := 35) hx hb dX12_feed_74 (by decide) ?_
          refine lv_iload hx hb dX12_feed_35 (lv_at hl 0 rfl) ?_
          refine lv_if_lt (tgt := 77) hx hb dX12_feed_37 (by decide) (fun c14 => ?_) (fun c14 => ?_)
          · have fc14 := z_lt (rfl : (v13).toInt = _) (by decide : (0 : Int32).toInt = 0) c14
            refine lv_aload_n hx hb dX12_feed_77 rfl (lv_at hl 1 rfl) ?_
            refine va_get (D := (dC, dI)) (ci := 12) (v := .int 1) (C := RX12) (T := TX12) (N := 75) hx hb ht inX12 hown hK hP 0 rfl rfl 33 (by decide) (ht _ m_1172) (fun _ h9 => h9) rfl dX12_feed_78 ?_
            exact W.iret (v := 1) hx hb hr (fun t ht9 hW => ⟨⟨1, (), rfl, (by unfold F_feed; rw [if_pos (by omega)]; exact z_of (x := 1) (by omega) (by decide)), trivial⟩, hS.F ht9⟩) hS.2.2 dX12_feed_81
          · have fc14 := z_nlt (rfl : (v13).toInt = _) (by decide : (0 : Int32).toInt = 0) c14
            refine lv_aload_n hx hb dX12_feed_40 rfl (lv_at hl 1 rfl) ?_
            refine va_get (D := (dC, dI)) (ci := 12) (v := .ref (g 12 32)) (C := RX12) (T := TX12) (N := 75) hx hb ht inX12 hown hK hP 0 rfl rfl 32 (by decide) (ht _ m_1171) (fun _ h9 => h9) rfl dX12_feed_41 ?_
            refine lv_aload_n hx hb dX12_feed_44 rfl (lv_at hl 1 rfl) ?_
            refine va_get (D := (dC, dI)) (ci := 12) (v := .int 1) (C := RX12) (T := TX12) (N := 75) hx hb ht inX12 hown hK hP 0 rfl rfl 33 (by decide) (ht _ m_1172) (fun _ h9 => h9) rfl dX12_feed_45 ?_
            refine lv_lload_n hx hb dX12_feed_48 rfl (lv_at hl 3 rfl) ?_
            refine lv_bipush (v := 8) hx hb dX12_feed_49 (by decide) ?_
            refine lv_iload hx hb dX12_feed_51 (lv_at hl 0 rfl) ?_
            refine lv_imul hx hb dX12_feed_53 ?_
            refine lv_topi (fun v15 ev15 => ?_)
            obtain ⟨w16, ew16⟩ : ∃ y : Int64, k >>> ((v15 : Int32).toInt64 &&& 63) = y := ⟨_, rfl⟩
            refine lv_lshr (v := w16) hx hb dX12_feed_54 ew16 ?_
            refine lv_ldc2 hx hb hown (ht _ m_1453) dX12_feed_55 ?_
            refine lv_land hx hb dX12_feed_58 ?_
            refine lv_topl (fun w17 ew17 => ?_)
            obtain ⟨v18, ev18⟩ : ∃ y : Int32, w17.toInt32 = y := ⟨_, rfl⟩
            refine lv_l2i (v := v18) hx hb dX12_feed_59 ev18 ?_
            refine va_iast (D := (dC, dI)) hx hb hK hP hD hS 1 0 rfl rfl (vp_in_iff.mpr (by decide)) dX12_feed_60 (fun H locs hP hD hS => ?_)
            obtain ⟨f19, hP, hD⟩ : ∃ f19 : Nat → Int32, va_P (dC, dI) classes [(h, .inr (12, ((o12 h g).set 33 (.int 1)))), ((g 12 32), .inl ((ca 12 32), 200, .inl f19))] H ∧ va_D A [(h, .inr (12, ((o12 h g).set 33 (.int 1)))), ((g 12 32), .inl ((ca 12 32), 200, .inl f19))] := ⟨_, hP, hD⟩
            refine lv_aload_n hx hb dX12_feed_61 rfl (lv_at hl 1 rfl) ?_
            refine lv_dup hx hb dX12_feed_62 rfl ?_
            refine va_get (D := (dC, dI)) (ci := 12) (v := .int 1) (C := RX12) (T := TX12) (N := 75) hx hb ht inX12 hown hK hP 0 rfl rfl 33 (by decide) (ht _ m_1172) (fun _ h9 => h9) rfl dX12_feed_63 ?_
            refine lv_iconst (v := 1) hx hb dX12_feed_66 (by decide) ?_
            refine lv_iadd hx hb dX12_feed_67 ?_
            refine lv_topi (fun v20 ev20 => ?_)
            obtain rfl : 2 = v20 := (ev20.trans (by decide)).symm
            refine va_put (D := (dC, dI)) (ci := 12) (v := .int 2) (ty := (.int)) (C := RX12) (T := TX12) (N := 75) hx hb ht inX12 tyX12 tyX12_ok nmX12 hown hK hP hD hS 0 rfl rfl 33 (by decide) (ht _ m_1172) (fun _ h9 => h9) rfl (by decide +kernel) rfl rfl (Nat.le_of_ble_eq_true rfl) dX12_feed_68 (fun H locs hP hD hS => ?_)
            have hP : va_P (dC, dI) classes [(h, .inr (12, ((o12 h g).set 33 (.int 2)))), ((g 12 32), .inl ((ca 12 32), 200, .inl f19))] H := hP
            have hD : va_D A [(h, .inr (12, ((o12 h g).set 33 (.int 2)))), ((g 12 32), .inl ((ca 12 32), 200, .inl f19))] := hD
            obtain ⟨v21, ev21⟩ : ∃ y : Int32, y = v13 + (-1) := ⟨_, rfl⟩
            have tv21 := z_add ev21 rfl (by decide : ((-1) : Int32).toInt = (-1)) (by omega) (by omega)
            refine lv_iinc (v := v21) (lv' := [(4, .int v21), (0, .ref h), (1, .int n), (2, .long k)]) hx hb dX12_feed_71 hl (k := 0) rfl (by rw [ev21]; rfl) (by decide) rfl (fun ls hl => ?_)
            refine lv_goto (tgt := 35) hx hb dX12_feed_74 (by decide) ?_
            refine lv_iload hx hb dX12_feed_35 (lv_at hl 0 rfl) ?_
            refine lv_if_lt (tgt := 77) hx hb dX12_feed_37 (by decide) (fun c22 => ?_) (fun c22 => ?_)
            · have fc22 := z_lt (rfl : (v21).toInt = _) (by decide : (0 : Int32).toInt = 0) c22
              refine lv_aload_n hx hb dX12_feed_77 rfl (lv_at hl 1 rfl) ?_
              refine va_get (D := (dC, dI)) (ci := 12) (v := .int 2) (C := RX12) (T := TX12) (N := 75) hx hb ht inX12 hown hK hP 0 rfl rfl 33 (by decide) (ht _ m_1172) (fun _ h9 => h9) rfl dX12_feed_78 ?_
              exact W.iret (v := 2) hx hb hr (fun t ht9 hW => ⟨⟨2, (), rfl, (by unfold F_feed; rw [if_pos (by omega)]; exact z_of (x := 2) (by omega) (by decide)), trivial⟩, hS.F ht9⟩) hS.2.2 dX12_feed_81
            · have fc22 := z_nlt (rfl : (v21).toInt = _) (by decide : (0 : Int32).toInt = 0) c22
              refine lv_aload_n hx hb dX12_feed_40 rfl (lv_at hl 1 rfl) ?_
              refine va_get (D := (dC, dI)) (ci := 12) (v := .ref (g 12 32)) (C := RX12) (T := TX12) (N := 75) hx hb ht inX12 hown hK hP 0 rfl rfl 32 (by decide) (ht _ m_1171) (fun _ h9 => h9) rfl dX12_feed_41 ?_
              refine lv_aload_n hx hb dX12_feed_44 rfl (lv_at hl 1 rfl) ?_
              refine va_get (D := (dC, dI)) (ci := 12) (v := .int 2) (C := RX12) (T := TX12) (N := 75) hx hb ht inX12 hown hK hP 0 rfl rfl 33 (by decide) (ht _ m_1172) (fun _ h9 => h9) rfl dX12_feed_45 ?_
              refine lv_lload_n hx hb dX12_feed_48 rfl (lv_at hl 3 rfl) ?_
              refine lv_bipush (v := 8) hx hb dX12_feed_49 (by decide) ?_
              refine lv_iload hx hb dX12_feed_51 (lv_at hl 0 rfl) ?_
              refine lv_imul hx hb dX12_feed_53 ?_
              refine lv_topi (fun v23 ev23 => ?_)
              obtain ⟨w24, ew24⟩ : ∃ y : Int64, k >>> ((v23 : Int32).toInt64 &&& 63) = y := ⟨_, rfl⟩
              refine lv_lshr (v := w24) hx hb dX12_feed_54 ew24 ?_
              refine lv_ldc2 hx hb hown (ht _ m_1453) dX12_feed_55 ?_
              refine lv_land hx hb dX12_feed_58 ?_
              refine lv_topl (fun w25 ew25 => ?_)
              obtain ⟨v26, ev26⟩ : ∃ y : Int32, w25.toInt32 = y := ⟨_, rfl⟩
              refine lv_l2i (v := v26) hx hb dX12_feed_59 ev26 ?_
              refine va_iast (D := (dC, dI)) hx hb hK hP hD hS 1 0 rfl rfl (vp_in_iff.mpr (by decide)) dX12_feed_60 (fun H locs hP hD hS => ?_)
              obtain ⟨f27, hP, hD⟩ : ∃ f27 : Nat → Int32, va_P (dC, dI) classes [(h, .inr (12, ((o12 h g).set 33 (.int 2)))), ((g 12 32), .inl ((ca 12 32), 200, .inl f27))] H ∧ va_D A [(h, .inr (12, ((o12 h g).set 33 (.int 2)))), ((g 12 32), .inl ((ca 12 32), 200, .inl f27))] := ⟨_, hP, hD⟩
              refine lv_aload_n hx hb dX12_feed_61 rfl (lv_at hl 1 rfl) ?_
              refine lv_dup hx hb dX12_feed_62 rfl ?_
              refine va_get (D := (dC, dI)) (ci := 12) (v := .int 2) (C := RX12) (T := TX12) (N := 75) hx hb ht inX12 hown hK hP 0 rfl rfl 33 (by decide) (ht _ m_1172) (fun _ h9 => h9) rfl dX12_feed_63 ?_
              refine lv_iconst (v := 1) hx hb dX12_feed_66 (by decide) ?_
              refine lv_iadd hx hb dX12_feed_67 ?_
              refine lv_topi (fun v28 ev28 => ?_)
              obtain rfl : 3 = v28 := (ev28.trans (by decide)).symm
              refine va_put (D := (dC, dI)) (ci := 12) (v := .int 3) (ty := (.int)) (C := RX12) (T := TX12) (N := 75) hx hb ht inX12 tyX12 tyX12_ok nmX12 hown hK hP hD hS 0 rfl rfl 33 (by decide) (ht _ m_1172) (fun _ h9 => h9) rfl (by decide +kernel) rfl rfl (Nat.le_of_ble_eq_true rfl) dX12_feed_68 (fun H locs hP hD hS => ?_)
              have hP : va_P (dC, dI) classes [(h, .inr (12, ((o12 h g).set 33 (.int 3)))), ((g 12 32), .inl ((ca 12 32), 200, .inl f27))] H := hP
              have hD : va_D A [(h, .inr (12, ((o12 h g).set 33 (.int 3)))), ((g 12 32), .inl ((ca 12 32), 200, .inl f27))] := hD
              obtain ⟨v29, ev29⟩ : ∃ y : Int32, y = v21 + (-1) := ⟨_, rfl⟩
              have tv29 := z_add ev29 rfl (by decide : ((-1) : Int32).toInt = (-1)) (by omega) (by omega)
              refine lv_iinc (v := v29) (lv' := [(4, .int v29), (0, .ref h), (1, .int n), (2, .long k)]) hx hb dX12_feed_71 hl (k := 0) rfl (by rw [ev29]; rfl) (by decide) rfl (fun ls hl => ?_)
              refine lv_goto (tgt := 35) hx hb dX12_feed_74 (by decide) ?_
              refine lv_iload hx hb dX12_feed_35 (lv_at hl 0 rfl) ?_
              refine lv_if_lt (tgt := 77) hx hb dX12_feed_37 (by decide) (fun c30 => ?_) (fun c30 => ?_)
              · have fc30 := z_lt (rfl : (v29).toInt = _) (by decide : (0 : Int32).toInt = 0) c30
                refine lv_aload_n hx hb dX12_feed_77 rfl (lv_at hl 1 rfl) ?_
                refine va_get (D := (dC, dI)) (ci := 12) (v := .int 3) (C := RX12) (T := TX12) (N := 75) hx hb ht inX12 hown hK hP 0 rfl rfl 33 (by decide) (ht _ m_1172) (fun _ h9 => h9) rfl dX12_feed_78 ?_
                exact W.iret (v := 3) hx hb hr (fun t ht9 hW => ⟨⟨3, (), rfl, (by unfold F_feed; rw [if_pos (by omega)]; exact z_of (x := 3) (by omega) (by decide)), trivial⟩, hS.F ht9⟩) hS.2.2 dX12_feed_81
              · have fc30 := z_nlt (rfl : (v29).toInt = _) (by decide : (0 : Int32).toInt = 0) c30
                refine lv_aload_n hx hb dX12_feed_40 rfl (lv_at hl 1 rfl) ?_
                refine va_get (D := (dC, dI)) (ci := 12) (v := .ref (g 12 32)) (C := RX12) (T := TX12) (N := 75) hx hb ht inX12 hown hK hP 0 rfl rfl 32 (by decide) (ht _ m_1171) (fun _ h9 => h9) rfl dX12_feed_41 ?_
                refine lv_aload_n hx hb dX12_feed_44 rfl (lv_at hl 1 rfl) ?_
                refine va_get (D := (dC, dI)) (ci := 12) (v := .int 3) (C := RX12) (T := TX12) (N := 75) hx hb ht inX12 hown hK hP 0 rfl rfl 33 (by decide) (ht _ m_1172) (fun _ h9 => h9) rfl dX12_feed_45 ?_
                refine lv_lload_n hx hb dX12_feed_48 rfl (lv_at hl 3 rfl) ?_
                refine lv_bipush (v := 8) hx hb dX12_feed_49 (by decide) ?_
                refine lv_iload hx hb dX12_feed_51 (lv_at hl 0 rfl) ?_
                refine lv_imul hx hb dX12_feed_53 ?_
                refine lv_topi (fun v31 ev31 => ?_)
                obtain ⟨w32, ew32⟩ : ∃ y : Int64, k >>> ((v31 : Int32).toInt64 &&& 63) = y := ⟨_, rfl⟩
                refine lv_lshr (v := w32) hx hb dX12_feed_54 ew32 ?_
                refine lv_ldc2 hx hb hown (ht _ m_1453) dX12_feed_55 ?_
                refine lv_land hx hb dX12_feed_58 ?_
                refine lv_topl (fun w33 ew33 => ?_)
                obtain ⟨v34, ev34⟩ : ∃ y : Int32, w33.toInt32 = y := ⟨_, rfl⟩
                refine lv_l2i (v := v34) hx hb dX12_feed_59 ev34 ?_
                refine va_iast (D := (dC, dI)) hx hb hK hP hD hS 1 0 rfl rfl (vp_in_iff.mpr (by decide)) dX12_feed_60 (fun H locs hP hD hS => ?_)
                obtain ⟨f35, hP, hD⟩ : ∃ f35 : Nat → Int32, va_P (dC, dI) classes [(h, .inr (12, ((o12 h g).set 33 (.int 3)))), ((g 12 32), .inl ((ca 12 32), 200, .inl f35))] H ∧ va_D A [(h, .inr (12, ((o12 h g).set 33 (.int 3)))), ((g 12 32), .inl ((ca 12 32), 200, .inl f35))] := ⟨_, hP, hD⟩
                refine lv_aload_n hx hb dX12_feed_61 rfl (lv_at hl 1 rfl) ?_
                refine lv_dup hx hb dX12_feed_62 rfl ?_
                refine va_get (D := (dC, dI)) (ci := 12) (v := .int 3) (C := RX12) (T := TX12) (N := 75) hx hb ht inX12 hown hK hP 0 rfl rfl 33 (by decide) (ht _ m_1172) (fun _ h9 => h9) rfl dX12_feed_63 ?_
                refine lv_iconst (v := 1) hx hb dX12_feed_66 (by decide) ?_
                refine lv_iadd hx hb dX12_feed_67 ?_
                refine lv_topi (fun v36 ev36 => ?_)
                obtain rfl : 4 = v36 := (ev36.trans (by decide)).symm
                refine va_put (D := (dC, dI)) (ci := 12) (v := .int 4) (ty := (.int)) (C := RX12) (T := TX12) (N := 75) hx hb ht inX12 tyX12 tyX12_ok nmX12 hown hK hP hD hS 0 rfl rfl 33 (by decide) (ht _ m_1172) (fun _ h9 => h9) rfl (by decide +kernel) rfl rfl (Nat.le_of_ble_eq_true rfl) dX12_feed_68 (fun H locs hP hD hS => ?_)
                have hP : va_P (dC, dI) classes [(h, .inr (12, ((o12 h g).set 33 (.int 4)))), ((g 12 32), .inl ((ca 12 32), 200, .inl f35))] H := hP
                have hD : va_D A [(h, .inr (12, ((o12 h g).set 33 (.int 4)))), ((g 12 32), .inl ((ca 12 32), 200, .inl f35))] := hD
                obtain ⟨v37, ev37⟩ : ∃ y : Int32, y = v29 + (-1) := ⟨_, rfl⟩
                have tv37 := z_add ev37 rfl (by decide : ((-1) : Int32).toInt = (-1)) (by omega) (by omega)
                refine lv_iinc (v := v37) (lv' := [(4, .int v37), (0, .ref h), (1, .int n), (2, .long k)]) hx hb dX12_feed_71 hl (k := 0) rfl (by rw [ev37]; rfl) (by decide) rfl (fun ls hl => ?_)
                refine lv_goto (tgt := 35) hx hb dX12_feed_74 (by decide) ?_
                refine lv_iload hx hb dX12_feed_35 (lv_at hl 0 rfl) ?_
                refine lv_if_lt (tgt := 77) hx hb dX12_feed_37 (by decide) (fun c38 => ?_) (fun c38 => ?_)
                · have fc38 := z_lt (rfl : (v37).toInt = _) (by decide : (0 : Int32).toInt = 0) c38
                  refine lv_aload_n hx hb dX12_feed_77 rfl (lv_at hl 1 rfl) ?_
                  refine va_get (D := (dC, dI)) (ci := 12) (v := .int 4) (C := RX12) (T := TX12) (N := 75) hx hb ht inX12 hown hK hP 0 rfl rfl 33 (by decide) (ht _ m_1172) (fun _ h9 => h9) rfl dX12_feed_78 ?_
                  exact W.iret (v := 4) hx hb hr (fun t ht9 hW => ⟨⟨4, (), rfl, (by unfold F_feed; rw [if_pos (by omega)]; exact z_of (x := 4) (by omega) (by decide)), trivial⟩, hS.F ht9⟩) hS.2.2 dX12_feed_81
                · have fc38 := z_nlt (rfl : (v37).toInt = _) (by decide : (0 : Int32).toInt = 0) c38
                  refine lv_aload_n hx hb dX12_feed_40 rfl (lv_at hl 1 rfl) ?_
                  refine va_get (D := (dC, dI)) (ci := 12) (v := .ref (g 12 32)) (C := RX12) (T := TX12) (N := 75) hx hb ht inX12 hown hK hP 0 rfl rfl 32 (by decide) (ht _ m_1171) (fun _ h9 => h9) rfl dX12_feed_41 ?_
                  refine lv_aload_n hx hb dX12_feed_44 rfl (lv_at hl 1 rfl) ?_
                  refine va_get (D := (dC, dI)) (ci := 12) (v := .int 4) (C := RX12) (T := TX12) (N := 75) hx hb ht inX12 hown hK hP 0 rfl rfl 33 (by decide) (ht _ m_1172) (fun _ h9 => h9) rfl dX12_feed_45 ?_
                  refine lv_lload_n hx hb dX12_feed_48 rfl (lv_at hl 3 rfl) ?_
                  refine lv_bipush (v := 8) hx hb dX12_feed_49 (by decide) ?_
                  refine lv_iload hx hb dX12_feed_51 (lv_at hl 0 rfl) ?_
                  refine lv_imul hx hb dX12_feed_53 ?_
                  refine lv_topi (fun v39 ev39 => ?_)
                  obtain ⟨w40, ew40⟩ : ∃ y : Int64, k >>> ((v39 : Int32).toInt64 &&& 63) = y := ⟨_, rfl⟩
                  refine lv_lshr (v := w40) hx hb dX12_feed_54 ew40 ?_
                  refine lv_ldc2 hx hb hown (ht _ m_1453) dX12_feed_55 ?_
                  refine lv_land hx hb dX12_feed_58 ?_
                  refine lv_topl (fun w41 ew41 => ?_)
                  obtain ⟨v42, ev42⟩ : ∃ y : Int32, w41.toInt32 = y := ⟨_, rfl⟩
                  refine lv_l2i (v := v42) hx hb dX12_feed_59 ev42 ?_
                  refine va_iast (D := (dC, dI)) hx hb hK hP hD hS 1 0 rfl rfl (vp_in_iff.mpr (by decide)) dX12_feed_60 (fun H locs hP hD hS => ?_)
                  obtain ⟨f43, hP, hD⟩ : ∃ f43 : Nat → Int32, va_P (dC, dI) classes [(h, .inr (12, ((o12 h g).set 33 (.int 4)))), ((g 12 32), .inl ((ca 12 32), 200, .inl f43))] H ∧ va_D A [(h, .inr (12, ((o12 h g).set 33 (.int 4)))), ((g 12 32), .inl ((ca 12 32), 200, .inl f43))] := ⟨_, hP, hD⟩
                  refine lv_aload_n hx hb dX12_feed_61 rfl (lv_at hl 1 rfl) ?_
                  refine lv_dup hx hb dX12_feed_62 rfl ?_
                  refine va_get (D := (dC, dI)) (ci := 12) (v := .int 4) (C := RX12) (T := TX12) (N := 75) hx hb ht inX12 hown hK hP 0 rfl rfl 33 (by decide) (ht _ m_1172) (fun _ h9 => h9) rfl dX12_feed_63 ?_
                  refine lv_iconst (v := 1) hx hb dX12_feed_66 (by decide) ?_
                  refine lv_iadd hx hb dX12_feed_67 ?_
                  refine lv_topi (fun v44 ev44 => ?_)
                  obtain rfl : 5 = v44 := (ev44.trans (by decide)).symm
                  refine va_put (D := (dC, dI)) (ci := 12) (v := .int 5) (ty := (.int)) (C := RX12) (T := TX12) (N := 75) hx hb ht inX12 tyX12 tyX12_ok nmX12 hown hK hP hD hS 0 rfl rfl 33 (by decide) (ht _ m_1172) (fun _ h9 => h9) rfl (by decide +kernel) rfl rfl (Nat.le_of_ble_eq_true rfl) dX12_feed_68 (fun H locs hP hD hS => ?_)
                  have hP : va_P (dC, dI) classes [(h, .inr (12, ((o12 h g).set 33 (.int 5)))), ((g 12 32), .inl ((ca 12 32), 200, .inl f43))] H := hP
                  have hD : va_D A [(h, .inr (12, ((o12 h g).set 33 (.int 5)))), ((g 12 32), .inl ((ca 12 32), 200, .inl f43))] := hD
                  obtain ⟨v45, ev45⟩ : ∃ y : Int32, y = v37 + (-1) := ⟨_, rfl⟩
                  have tv45 := z_add ev45 rfl (by decide : ((-1) : Int32).toInt = (-1)) (by omega) (by omega)
                  refine lv_iinc (v := v45) (lv' := [(4, .int v45), (0, .ref h), (1, .int n), (2, .long k)]) hx hb dX12_feed_71 hl (k := 0) rfl (by rw [ev45]; rfl) (by decide) rfl (fun ls hl => ?_)
                  refine lv_goto (tgt := 35) hx hb dX12_feed_74 (by decide) ?_
                  refine lv_iload hx hb dX12_feed_35 (lv_at hl 0 rfl) ?_
                  refine lv_if_lt (tgt := 77) hx hb dX12_feed_37 (by decide) (fun c46 => ?_) (fun c46 => ?_)
                  · have fc46 := z_lt (rfl : (v45).toInt = _) (by decide : (0 : Int32).toInt = 0) c46
                    refine lv_aload_n hx hb dX12_feed_77 rfl (lv_at hl 1 rfl) ?_
                    refine va_get (D := (dC, dI)) (ci := 12) (v := .int 5) (C := RX12) (T := TX12) (N := 75) hx hb ht inX12 hown hK hP 0 rfl rfl 33 (by decide) (ht _ m_1172) (fun _ h9 => h9) rfl dX12_feed_78 ?_
                    exact W.iret (v := 5) hx hb hr (fun t ht9 hW => ⟨⟨5, (), rfl, (by unfold F_feed; rw [if_pos (by omega)]; exact z_of (x := 5) (by omega) (by decide)), trivial⟩, hS.F ht9⟩) hS.2.2 dX12_feed_81
                  · have fc46 := z_nlt (rfl : (v45).toInt = _) (by decide : (0 : Int32).toInt = 0) c46
                    refine lv_aload_n hx hb dX12_feed_40 rfl (lv_at hl 1 rfl) ?_
                    refine va_get (D := (dC, dI)) (ci := 12) (v := .ref (g 12 32)) (C := RX12) (T := TX12) (N := 75) hx hb ht inX12 hown hK hP 0 rfl rfl 32 (by decide) (ht _ m_1171) (fun _ h9 => h9) rfl dX12_feed_41 ?_
                    refine lv_aload_n hx hb dX12_feed_44 rfl (lv_at hl 1 rfl) ?_
                    refine va_get (D := (dC, dI)) (ci := 12) (v := .int 5) (C := RX12) (T := TX12) (N := 75) hx hb ht inX12 hown hK hP 0 rfl rfl 33 (by decide) (ht _ m_1172) (fun _ h9 => h9) rfl dX12_feed_45 ?_
                    refine lv_lload_n hx hb dX12_feed_48 rfl (lv_at hl 3 rfl) ?_
                    refine lv_bipush (v := 8) hx hb dX12_feed_49 (by decide) ?_
                    refine lv_iload hx hb dX12_feed_51 (lv_at hl 0 rfl) ?_
                    refine lv_imul hx hb dX12_feed_53 ?_
                    refine lv_topi (fun v47 ev47 => ?_)
                    obtain ⟨w48, ew48⟩ : ∃ y : Int64, k >>> ((v47 : Int32).toInt64 &&& 63) = y := ⟨_, rfl⟩
                    refine lv_lshr (v := w48) hx hb dX12_feed_54 ew48 ?_
                    refine lv_ldc2 hx hb hown (ht _ m_1453) dX12_feed_55 ?_
                    refine lv_land hx hb dX12_feed_58 ?_
                    refine lv_topl (fun w49 ew49 => ?_)
                    obtain ⟨v50, ev50⟩ : ∃ y : Int32, w49.toInt32 = y := ⟨_, rfl⟩
                    refine lv_l2i (v := v50) hx hb dX12_feed_59 ev50 ?_
                    refine va_iast (D := (dC, dI)) hx hb hK hP hD hS 1 0 rfl rfl (vp_in_iff.mpr (by decide)) dX12_feed_60 (fun H locs hP hD hS => ?_)
                    obtain ⟨f51, hP, hD⟩ : ∃ f51 : Nat → Int32, va_P (dC, dI) classes [(h, .inr (12, ((o12 h g).set 33 (.int 5)))), ((g 12 32), .inl ((ca 12 32), 200, .inl f51))] H ∧ va_D A [(h, .inr (12, ((o12 h g).set 33 (.int 5)))), ((g 12 32), .inl ((ca 12 32), 200, .inl f51))] := ⟨_, hP, hD⟩
                    refine lv_aload_n hx hb dX12_feed_61 rfl (lv_at hl 1 rfl) ?_
                    refine lv_dup hx hb dX12_feed_62 rfl ?_
                    refine va_get (D := (dC, dI)) (ci := 12) (v := .int 5) (C := RX12) (T := TX12) (N := 75) hx hb ht inX12 hown hK hP 0 rfl rfl 33 (by decide) (ht _ m_1172) (fun _ h9 => h9) rfl dX12_feed_63 ?_
                    refine lv_iconst (v := 1) hx hb dX12_feed_66 (by decide) ?_
                    refine lv_iadd hx hb dX12_feed_67 ?_
                    refine lv_topi (fun v52 ev52 => ?_)
                    obtain rfl : 6 = v52 := (ev52.trans (by decide)).symm
                    refine va_put (D := (dC, dI)) (ci := 12) (v := .int 6) (ty := (.int)) (C := RX12) (T := TX12) (N := 75) hx hb ht inX12 tyX12 tyX12_ok nmX12 hown hK hP hD hS 0 rfl rfl 33 (by decide) (ht _ m_1172) (fun _ h9 => h9) rfl (by decide +kernel) rfl rfl (Nat.le_of_ble_eq_true rfl) dX12_feed_68 (fun H locs hP hD hS => ?_)
                    have hP : va_P (dC, dI) classes [(h, .inr (12, ((o12 h g).set 33 (.int 6)))), ((g 12 32), .inl ((ca 12 32), 200, .inl f51))] H := hP
                    have hD : va_D A [(h, .inr (12, ((o12 h g).set 33 (.int 6)))), ((g 12 32), .inl ((ca 12 32), 200, .inl f51))] := hD
                    obtain ⟨v53, ev53⟩ : ∃ y : Int32, y = v45 + (-1) := ⟨_, rfl⟩
                    have tv53 := z_add ev53 rfl (by decide : ((-1) : Int32).toInt = (-1)) (by omega) (by omega)
                    refine lv_iinc (v := v53) (lv' := [(4, .int v53), (0, .ref h), (1, .int n), (2, .long k)]) hx hb dX12_feed_71 hl (k := 0) rfl (by rw [ev53]; rfl) (by decide) rfl (fun ls hl => ?_)
                    refine lv_goto (tgt := 35) hx hb dX12_feed_74 (by decide) ?_
                    refine lv_iload hx hb dX12_feed_35 (lv_at hl 0 rfl) ?_
                    refine lv_if_lt (tgt := 77) hx hb dX12_feed_37 (by decide) (fun c54 => ?_) (fun c54 => ?_)
                    · have fc54 := z_lt (rfl : (v53).toInt = _) (by decide : (0 : Int32).toInt = 0) c54
                      refine lv_aload_n hx hb dX12_feed_77 rfl (lv_at hl 1 rfl) ?_
                      refine va_get (D := (dC, dI)) (ci := 12) (v := .int 6) (C := RX12) (T := TX12) (N := 75) hx hb ht inX12 hown hK hP 0 rfl rfl 33 (by decide) (ht _ m_1172) (fun _ h9 => h9) rfl dX12_feed_78 ?_
                      exact W.iret (v := 6) hx hb hr (fun t ht9 hW => ⟨⟨6, (), rfl, (by unfold F_feed; rw [if_pos (by omega)]; exact z_of (x := 6) (by omega) (by decide)), trivial⟩, hS.F ht9⟩) hS.2.2 dX12_feed_81
                    · have fc54 := z_nlt (rfl : (v53).toInt = _) (by decide : (0 : Int32).toInt = 0) c54
                      refine lv_aload_n hx hb dX12_feed_40 rfl (lv_at hl 1 rfl) ?_
                      refine va_get (D := (dC, dI)) (ci := 12) (v := .ref (g 12 32)) (C := RX12) (T := TX12) (N := 75) hx hb ht inX12 hown hK hP 0 rfl rfl 32 (by decide) (ht _ m_1171) (fun _ h9 => h9) rfl dX12_feed_41 ?_
                      refine lv_aload_n hx hb dX12_feed_44 rfl (lv_at hl 1 rfl) ?_
                      refine va_get (D := (dC, dI)) (ci := 12) (v := .int 6) (C := RX12) (T := TX12) (N := 75) hx hb ht inX12 hown hK hP 0 rfl rfl 33 (by decide) (ht _ m_1172) (fun _ h9 => h9) rfl dX12_feed_45 ?_
                      refine lv_lload_n hx hb dX12_feed_48 rfl (lv_at hl 3 rfl) ?_
                      refine lv_bipush (v := 8) hx hb dX12_feed_49 (by decide) ?_
                      refine lv_iload hx hb dX12_feed_51 (lv_at hl 0 rfl) ?_
                      refine lv_imul hx hb dX12_feed_53 ?_
                      refine lv_topi (fun v55 ev55 => ?_)
                      obtain ⟨w56, ew56⟩ : ∃ y : Int64, k >>> ((v55 : Int32).toInt64 &&& 63) = y := ⟨_, rfl⟩
                      refine lv_lshr (v := w56) hx hb dX12_feed_54 ew56 ?_
                      refine lv_ldc2 hx hb hown (ht _ m_1453) dX12_feed_55 ?_
                      refine lv_land hx hb dX12_feed_58 ?_
                      refine lv_topl (fun w57 ew57 => ?_)
                      obtain ⟨v58, ev58⟩ : ∃ y : Int32, w57.toInt32 = y := ⟨_, rfl⟩
                      refine lv_l2i (v := v58) hx hb dX12_feed_59 ev58 ?_
                      refine va_iast (D := (dC, dI)) hx hb hK hP hD hS 1 0 rfl rfl (vp_in_iff.mpr (by decide)) dX12_feed_60 (fun H locs hP hD hS => ?_)
                      obtain ⟨f59, hP, hD⟩ : ∃ f59 : Nat → Int32, va_P (dC, dI) classes [(h, .inr (12, ((o12 h g).set 33 (.int 6)))), ((g 12 32), .inl ((ca 12 32), 200, .inl f59))] H ∧ va_D A [(h, .inr (12, ((o12 h g).set 33 (.int 6)))), ((g 12 32), .inl ((ca 12 32), 200, .inl f59))] := ⟨_, hP, hD⟩
                      refine lv_aload_n hx hb dX12_feed_61 rfl (lv_at hl 1 rfl) ?_
                      refine lv_dup hx hb dX12_feed_62 rfl ?_
                      refine va_get (D := (dC, dI)) (ci := 12) (v := .int 6) (C := RX12) (T := TX12) (N := 75) hx hb ht inX12 hown hK hP 0 rfl rfl 33 (by decide) (ht _ m_1172) (fun _ h9 => h9) rfl dX12_feed_63 ?_
                      refine lv_iconst (v := 1) hx hb dX12_feed_66 (by decide) ?_
                      refine lv_iadd hx hb dX12_feed_67 ?_
                      refine lv_topi (fun v60 ev60 => ?_)
                      obtain rfl : 7 = v60 := (ev60.trans (by decide)).symm
                      refine va_put (D := (dC, dI)) (ci := 12) (v := .int 7) (ty := (.int)) (C := RX12) (T := TX12) (N := 75) hx hb ht inX12 tyX12 tyX12_ok nmX12 hown hK hP hD hS 0 rfl rfl 33 (by decide) (ht _ m_1172) (fun _ h9 => h9) rfl (by decide +kernel) rfl rfl (Nat.le_of_ble_eq_true rfl) dX12_feed_68 (fun H locs hP hD hS => ?_)
                      have hP : va_P (dC, dI) classes [(h, .inr (12, ((o12 h g).set 33 (.int 7)))), ((g 12 32), .inl ((ca 12 32), 200, .inl f59))] H := hP
                      have hD : va_D A [(h, .inr (12, ((o12 h g).set 33 (.int 7)))), ((g 12 32), .inl ((ca 12 32), 200, .inl f59))] := hD
                      obtain ⟨v61, ev61⟩ : ∃ y : Int32, y = v53 + (-1) := ⟨_, rfl⟩
                      have tv61 := z_add ev61 rfl (by decide : ((-1) : Int32).toInt = (-1)) (by omega) (by omega)
                      refine lv_iinc (v := v61) (lv' := [(4, .int v61), (0, .ref h), (1, .int n), (2, .long k)]) hx hb dX12_feed_71 hl (k := 0) rfl (by rw [ev61]; rfl) (by decide) rfl (fun ls hl => ?_)
                      refine lv_goto (tgt := 35) hx hb dX12_feed_74 (by decide) ?_
                      refine lv_iload hx hb dX12_feed_35 (lv_at hl 0 rfl) ?_
                      refine lv_if_lt (tgt := 77) hx hb dX12_feed_37 (by decide) (fun c62 => ?_) (fun c62 => ?_)
                      · have fc62 := z_lt (rfl : (v61).toInt = _) (by decide : (0 : Int32).toInt = 0) c62
                        refine lv_aload_n hx hb dX12_feed_77 rfl (lv_at hl 1 rfl) ?_
                        refine va_get (D := (dC, dI)) (ci := 12) (v := .int 7) (C := RX12) (T := TX12) (N := 75) hx hb ht inX12 hown hK hP 0 rfl rfl 33 (by decide) (ht _ m_1172) (fun _ h9 => h9) rfl dX12_feed_78 ?_
                        exact W.iret (v := 7) hx hb hr (fun t ht9 hW => ⟨⟨7, (), rfl, (by unfold F_feed; rw [if_pos (by omega)]; exact z_of (x := 7) (by omega) (by decide)), trivial⟩, hS.F ht9⟩) hS.2.2 dX12_feed_81
                      · have fc62 := z_nlt (rfl : (v61).toInt = _) (by decide : (0 : Int32).toInt = 0) c62
                        refine lv_aload_n hx hb dX12_feed_40 rfl (lv_at hl 1 rfl) ?_
                        refine va_get (D := (dC, dI)) (ci := 12) (v := .ref (g 12 32)) (C := RX12) (T := TX12) (N := 75) hx hb ht inX12 hown hK hP 0 rfl rfl 32 (by decide) (ht _ m_1171) (fun _ h9 => h9) rfl dX12_feed_41 ?_
                        refine lv_aload_n hx hb dX12_feed_44 rfl (lv_at hl 1 rfl) ?_
                        refine va_get (D := (dC, dI)) (ci := 12) (v := .int 7) (C := RX12) (T := TX12) (N := 75) hx hb ht inX12 hown hK hP 0 rfl rfl 33 (by decide) (ht _ m_1172) (fun _ h9 => h9) rfl dX12_feed_45 ?_
                        refine lv_lload_n hx hb dX12_feed_48 rfl (lv_at hl 3 rfl) ?_
                        refine lv_bipush (v := 8) hx hb dX12_feed_49 (by decide) ?_
                        refine lv_iload hx hb dX12_feed_51 (lv_at hl 0 rfl) ?_
                        refine lv_imul hx hb dX12_feed_53 ?_
                        refine lv_topi (fun v63 ev63 => ?_)
                        obtain ⟨w64, ew64⟩ : ∃ y : Int64, k >>> ((v63 : Int32).toInt64 &&& 63) = y := ⟨_, rfl⟩
                        refine lv_lshr (v := w64) hx hb dX12_feed_54 ew64 ?_
                        refine lv_ldc2 hx hb hown (ht _ m_1453) dX12_feed_55 ?_
                        refine lv_land hx hb dX12_feed_58 ?_
                        refine lv_topl (fun w65 ew65 => ?_)
                        obtain ⟨v66, ev66⟩ : ∃ y : Int32, w65.toInt32 = y := ⟨_, rfl⟩
                        refine lv_l2i (v := v66) hx hb dX12_feed_59 ev66 ?_
                        refine va_iast (D := (dC, dI)) hx hb hK hP hD hS 1 0 rfl rfl (vp_in_iff.mpr (by decide)) dX12_feed_60 (fun H locs hP hD hS => ?_)
                        obtain ⟨f67, hP, hD⟩ : ∃ f67 : Nat → Int32, va_P (dC, dI) classes [(h, .inr (12, ((o12 h g).set 33 (.int 7)))), ((g 12 32), .inl ((ca 12 32), 200, .inl f67))] H ∧ va_D A [(h, .inr (12, ((o12 h g).set 33 (.int 7)))), ((g 12 32), .inl ((ca 12 32), 200, .inl f67))] := ⟨_, hP, hD⟩
                        refine lv_aload_n hx hb dX12_feed_61 rfl (lv_at hl 1 rfl) ?_
                        refine lv_dup hx hb dX12_feed_62 rfl ?_
                        refine va_get (D := (dC, dI)) (ci := 12) (v := .int 7) (C := RX12) (T := TX12) (N := 75) hx hb ht inX12 hown hK hP 0 rfl rfl 33 (by decide) (ht _ m_1172) (fun _ h9 => h9) rfl dX12_feed_63 ?_
                        refine lv_iconst (v := 1) hx hb dX12_feed_66 (by decide) ?_
                        refine lv_iadd hx hb dX12_feed_67 ?_
                        refine lv_topi (fun v68 ev68 => ?_)
                        obtain rfl : 8 = v68 := (ev68.trans (by decide)).symm
                        refine va_put (D := (dC, dI)) (ci := 12) (v := .int 8) (ty := (.int)) (C := RX12) (T := TX12) (N := 75) hx hb ht inX12 tyX12 tyX12_ok nmX12 hown hK hP hD hS 0 rfl rfl 33 (by decide) (ht _ m_1172) (fun _ h9 => h9) rfl (by decide +kernel) rfl rfl (Nat.le_of_ble_eq_true rfl) dX12_feed_68 (fun H locs hP hD hS => ?_)
                        have hP : va_P (dC, dI) classes [(h, .inr (12, ((o12 h g).set 33 (.int 8)))), ((g 12 32), .inl ((ca 12 32), 200, .inl f67))] H := hP
                        have hD : va_D A [(h, .inr (12, ((o12 h g).set 33 (.int 8)))), ((g 12 32), .inl ((ca 12 32), 200, .inl f67))] := hD
                        obtain ⟨v69, ev69⟩ : ∃ y : Int32, y = v61 + (-1) := ⟨_, rfl⟩
                        have tv69 := z_add ev69 rfl (by decide : ((-1) : Int32).toInt = (-1)) (by omega) (by omega)
                        refine lv_iinc (v := v69) (lv' := [(4, .int v69), (0, .ref h), (1, .int n), (2, .long k)]) hx hb dX12_feed_71 hl (k := 0) rfl (by rw [ev69]; rfl) (by decide) rfl (fun ls hl => ?_)
                        refine lv_goto (tgt := 35) hx hb dX12_feed_74 (by decide) ?_
                        refine lv_iload hx hb dX12_feed_35 (lv_at hl 0 rfl) ?_
                        refine lv_if_lt (tgt := 77) hx hb dX12_feed_37 (by decide) (fun c70 => ?_) (fun c70 => ?_)
                        · skip
                          refine lv_aload_n hx hb dX12_feed_77 rfl (lv_at hl 1 rfl) ?_
                          refine va_get (D := (dC, dI)) (ci := 12) (v := .int 8) (C := RX12) (T := TX12) (N := 75) hx hb ht inX12 hown hK hP 0 rfl rfl 33 (by decide) (ht _ m_1172) (fun _ h9 => h9) rfl dX12_feed_78 ?_
                          exact W.iret (v := 8) hx hb hr (fun t ht9 hW => ⟨⟨8, (), rfl, (by unfold F_feed; rw [if_pos (by omega)]; exact z_of (x := 8) (by omega) (by decide)), trivial⟩, hS.F ht9⟩) hS.2.2 dX12_feed_81
                        · have fc70 := z_nlt (rfl : (v69).toInt = _) (by decide : (0 : Int32).toInt = 0) c70; exfalso; omega
      · have fc4 := z_nle (rfl : (n).toInt = _) (by decide : (200 : Int32).toInt = 200) c4; exfalso; omega
    · exact absurd c2 (by decide)
  · skip
    refine lv_if_ne (tgt := 15) hx hb dX12_feed_9 (by decide) (fun c71 => ?_) (fun c71 => ?_)
    · exact absurd rfl c71
    · skip
      refine lv_ldc hx hb hown (ht _ m_1373) dX12_feed_12 ?_
      exact W.iret (v := (-100002)) hx hb hr (fun t ht9 hW => ⟨⟨(-100002), (), rfl, (by unfold F_feed; first | decide | ((repeat' split) <;> first | rfl | (exfalso; omega) | exact z_of (by decide) (by omega))), trivial⟩, hS.F ht9⟩) hS.2.2 dX12_feed_14
set_option maxHeartbeats 4000000 in
set_option maxRecDepth 100000 in
/-- X12_rule -/
theorem c_X12_rule (l : Launch) (dC : Nat → ClassId) (dI : Nat → Nat → Nat) (sz : Nat) (h : Nat) (g : Nat → Nat → Nat) (ca : Nat → Nat → ClassId) (n : Int32) : Met l yX12_rule (wc yX12_rule cX12_rule 4 (some .int)) ({ frames := 2, cells := 0, slots := 0, locals := 45 } : Room) (pW (dC, dI) classes [(h, .inr (12, (o12 h g))), ((g 12 25), .inl ((ca 12 25), 8, .inl (fun _ => 0))), ((g 12 24), .inl ((ca 12 24), 8, .inl (fun _ => 0)))] [((ca 12 25), .int), ((ca 12 24), .int)] sz [.ref h, .int n]) (va_Qi (fun r (_ : Unit) => r = F_rule n) (fun _ _ => True) (va_A [(h, .inr (12, (o12 h g))), ((g 12 25), .inl ((ca 12 25), 8, .inl (fun _ => 0))), ((g 12 24), .inl ((ca 12 24), 8, .inl (fun _ => 0)))] sz)) 0 0 (va_A [(h, .inr (12, (o12 h g))), ((g 12 25), .inl ((ca 12 25), 8, .inl (fun _ => 0))), ((g 12 24), .inl ((ca 12 24), 8, .inl (fun _ => 0)))] sz) := by
  refine Met.ofW (cc := cX12_rule) (maxL := 4) (ret := (some .int)) (by decide) rfl ?_
  intro p e s m args below meth c s₁ B hml hv
  obtain ⟨rfl, hsz, hP, hK, hD0⟩ := hv
  have hx := B.exec
  have hb := B.bytes
  have hr := B.returns
  have ht := tb_tl (atoms_spec (ws := wc yX12_rule cX12_rule 4 (some .int)) B.pre)
  have hown : s.vm.findClass RX12 = some m.cls := findClass_of_methodNamed B.named
  have hlocks := B.notSynchronized
  subst hsz
  have hD := hD0.self (sz := s.heap.size)
  generalize hAe : va_A [(h, .inr (12, (o12 h g))), ((g 12 25), .inl ((ca 12 25), 8, .inl (fun _ => 0))), ((g 12 24), .inl ((ca 12 24), 8, .inl (fun _ => 0)))] s.heap.size = A at hD ⊢
  have hA : ∀ q : Nat, s.heap.size ≤ q → A q := fun q h => by rw [← hAe]; exact Or.inr h
  have hS : va_S A s.heap s.heap [] := va_S.rf
  have hP : va_P (dC, dI) classes [(h, .inr (12, (o12 h g))), ((g 12 25), .inl ((ca 12 25), 8, .inl (fun _ => 0))), ((g 12 24), .inl ((ca 12 24), 8, .inl (fun _ => 0)))] s.heap := hP
  have hl := lv_entry [.ref h, .int n] (n := 4) (Nat.le_of_ble_eq_true rfl)
  rw [lg_entry_eq]
  generalize (lg_sl [.ref h, .int n] ++ List.replicate (4 - (lg_sl [.ref h, .int n]).length) Slot.unset).toArray = ls at hl ⊢
  have hl : lv_has ls 4 [(0, .ref h), (1, .int n)] := hl
  refine lv_iload_n hx hb dX12_rule_0 rfl (lv_at hl 1 rfl) ?_
  have hPc := hP.sub (ws' := []) [] rfl
  have hKc := hK.sub (tys' := []) [] rfl
  refine vp_callSi (W.runS (As := [.int n]) (rest := []) ⟨hx, hb, hml, hown, ht⟩ (c_X12_isDay l dC dI n) (kS 1 ht m_1422 m_1423 m_89 m_1424 rfl rfl hd_X12_isDay_v ⟨Nat.le_of_ble_eq_true rfl, Nat.le_of_ble_eq_true rfl⟩) (sR hPc hKc) rfl rfl hl.1 rfl (lv_room (Nat.le_of_ble_eq_true rfl)) dX12_rule_1 ⟨Nat.le_of_ble_eq_true rfl, Nat.le_of_ble_eq_true rfl⟩) (fun r1 hr1 => ?_)
  rcases hr1 with ⟨rfl, fr1⟩ | ⟨rfl, fr1⟩
  · skip
    refine lv_if_ne (tgt := 10) hx hb dX12_rule_4 (by decide) (fun c2 => ?_) (fun c2 => ?_)
    · skip
      refine lv_aload_n hx hb dX12_rule_10 rfl (lv_at hl 0 rfl) ?_
      refine va_get (D := (dC, dI)) (ci := 12) (v := .int 0) (C := RX12) (T := TX12) (N := 75) hx hb ht inX12 hown hK hP 0 rfl rfl 23 (by decide) (ht _ m_1162) (fun _ h9 => h9) rfl dX12_rule_11 ?_
      refine lv_bipush (v := 8) hx hb dX12_rule_14 (by decide) ?_
      refine lv_icmp_ne (tgt := 22) hx hb dX12_rule_16 (by decide) (fun c3 => ?_) (fun c3 => ?_)
      · skip
        refine lv_aload_n hx hb dX12_rule_22 rfl (lv_at hl 0 rfl) ?_
        refine lv_iconst (v := 0) hx hb dX12_rule_23 (by decide) ?_
        refine va_put (D := (dC, dI)) (ci := 12) (v := .int 0) (ty := (.int)) (C := RX12) (T := TX12) (N := 75) hx hb ht inX12 tyX12 tyX12_ok nmX12 hown hK hP hD hS 0 rfl rfl 34 (by decide) (ht _ m_1173) (fun _ h9 => h9) rfl (by decide +kernel) rfl rfl (Nat.le_of_ble_eq_true rfl) dX12_rule_24 (fun H locs hP hD hS => ?_)
        have hP : va_P (dC, dI) classes [(h, .inr (12, (o12 h g))), ((g 12 25), .inl ((ca 12 25), 8, .inl (fun _ => 0))), ((g 12 24), .inl ((ca 12 24), 8, .inl (fun _ => 0)))] H := hP
        have hD : va_D A [(h, .inr (12, (o12 h g))), ((g 12 25), .inl ((ca 12 25), 8, .inl (fun _ => 0))), ((g 12 24), .inl ((ca 12 24), 8, .inl (fun _ => 0)))] := hD
        refine lv_aload_n hx hb dX12_rule_27 rfl (lv_at hl 0 rfl) ?_
        refine lv_iconst (v := 0) hx hb dX12_rule_28 (by decide) ?_
        refine va_put (D := (dC, dI)) (ci := 12) (v := .int 0) (ty := (.int)) (C := RX12) (T := TX12) (N := 75) hx hb ht inX12 tyX12 tyX12_ok nmX12 hown hK hP hD hS 0 rfl rfl 35 (by decide) (ht _ m_1174) (fun _ h9 => h9) rfl (by decide +kernel) rfl rfl (Nat.le_of_ble_eq_true rfl) dX12_rule_29 (fun H locs hP hD hS => ?_)
        have hP : va_P (dC, dI) classes [(h, .inr (12, (o12 h g))), ((g 12 25), .inl ((ca 12 25), 8, .inl (fun _ => 0))), ((g 12 24), .inl ((ca 12 24), 8, .inl (fun _ => 0)))] H := hP
        have hD : va_D A [(h, .inr (12, (o12 h g))), ((g 12 25), .inl ((ca 12 25), 8, .inl (fun _ => 0))), ((g 12 24), .inl ((ca 12 24), 8, .inl (fun _ => 0)))] := hD
        refine lv_aload_n hx hb dX12_rule_32 rfl (lv_at hl 0 rfl) ?_
        refine lv_iconst (v := (-1)) hx hb dX12_rule_33 (by decide) ?_
        refine va_put (D := (dC, dI)) (ci := 12) (v := .int (-1)) (ty := (.int)) (C := RX12) (T := TX12) (N := 75) hx hb ht inX12 tyX12 tyX12_ok nmX12 hown hK hP hD hS 0 rfl rfl 36 (by decide) (ht _ m_1175) (fun _ h9 => h9) rfl (by decide +kernel) rfl rfl (Nat.le_of_ble_eq_true rfl) dX12_rule_34 (fun H locs hP hD hS => ?_)
        have hP : va_P (dC, dI) classes [(h, .inr (12, (o12 h g))), ((g 12 25), .inl ((ca 12 25), 8, .inl (fun _ => 0))), ((g 12 24), .inl ((ca 12 24), 8, .inl (fun _ => 0)))] H := hP
        have hD : va_D A [(h, .inr (12, (o12 h g))), ((g 12 25), .inl ((ca 12 25), 8, .inl (fun _ => 0))), ((g 12 24), .inl ((ca 12 24), 8, .inl (fun _ => 0)))] := hD
        refine lv_iconst (v := 0) hx hb dX12_rule_37 (by decide) ?_
        refine lv_istore_n (lv' := [(2, .int 0), (0, .ref h), (1, .int n)]) hx hb dX12_rule_38 rfl hl (by decide) rfl (fun ls hl => ?_)
        refine lv_aload_n hx hb dX12_rule_39 rfl (lv_at hl 1 rfl) ?_
        refine va_get (D := (dC, dI)) (ci := 12) (v := .int 0) (C := RX12) (T := TX12) (N := 75) hx hb ht inX12 hown hK hP 0 rfl rfl 35 (by decide) (ht _ m_1174) (fun _ h9 => h9) rfl dX12_rule_40 ?_
        refine lv_if_ne (tgt := 213) hx hb dX12_rule_43 (by decide) (fun c4 => ?_) (fun c4 => ?_)
        · exact absurd rfl c4
        · skip
          refine lv_aload_n hx hb dX12_rule_46 rfl (lv_at hl 1 rfl) ?_
          have hPc := hP.sub (ws' := [(h, .inr (12, (o12 h g)))]) [0] rfl
          have hKc := hK.sub (tys' := []) [] rfl
          refine vp_callSi (W.runV (As := []) (rest := []) ⟨hx, hb, hml, hown, ht⟩ (c_X12_here l dC dI h g ca) (kV 0 ht m_1458 m_1460 m_47 m_89 m_1461 rfl rfl hd_X12_here_v ⟨Nat.le_of_ble_eq_true rfl, Nat.le_of_ble_eq_true rfl⟩) (vR hPc hKc (va_recv hKc hPc (ci := 12) (q0 := 0) rfl rfl)) rfl rfl hl.1 rfl (lv_room (Nat.le_of_ble_eq_true rfl)) dX12_rule_47 ⟨Nat.le_of_ble_eq_true rfl, Nat.le_of_ble_eq_true rfl⟩) (fun r5 hr5 => ?_)
          obtain rfl : (-1) = r5 := hr5.symm
          refine lv_if_lt (tgt := 213) hx hb dX12_rule_50 (by decide) (fun c6 => ?_) (fun c6 => ?_)
          · skip
            refine lv_aload_n hx hb dX12_rule_213 rfl (lv_at hl 1 rfl) ?_
            refine lv_iconst (v := 0) hx hb dX12_rule_214 (by decide) ?_
            refine va_put (D := (dC, dI)) (ci := 12) (v := .int 0) (ty := (.int)) (C := RX12) (T := TX12) (N := 75) hx hb ht inX12 tyX12 tyX12_ok nmX12 hown hK hP hD hS 0 rfl rfl 33 (by decide) (ht _ m_1172) (fun _ h9 => h9) rfl (by decide +kernel) rfl rfl (Nat.le_of_ble_eq_true rfl) dX12_rule_215 (fun H locs hP hD hS => ?_)
            have hP : va_P (dC, dI) classes [(h, .inr (12, (o12 h g))), ((g 12 25), .inl ((ca 12 25), 8, .inl (fun _ => 0))), ((g 12 24), .inl ((ca 12 24), 8, .inl (fun _ => 0)))] H := hP
            have hD : va_D A [(h, .inr (12, (o12 h g))), ((g 12 25), .inl ((ca 12 25), 8, .inl (fun _ => 0))), ((g 12 24), .inl ((ca 12 24), 8, .inl (fun _ => 0)))] := hD
            refine lv_aload_n hx hb dX12_rule_218 rfl (lv_at hl 1 rfl) ?_
            refine va_get (D := (dC, dI)) (ci := 12) (v := .int 0) (C := RX12) (T := TX12) (N := 75) hx hb ht inX12 hown hK hP 0 rfl rfl 35 (by decide) (ht _ m_1174) (fun _ h9 => h9) rfl dX12_rule_219 ?_
            refine lv_if_le (tgt := 233) hx hb dX12_rule_222 (by decide) (fun c7 => ?_) (fun c7 => ?_)
            · skip
              refine lv_aload_n hx hb dX12_rule_233 rfl (lv_at hl 1 rfl) ?_
              refine va_get (D := (dC, dI)) (ci := 12) (v := .ref (g 12 25)) (C := RX12) (T := TX12) (N := 75) hx hb ht inX12 hown hK hP 0 rfl rfl 25 (by decide) (ht _ m_1164) (fun _ h9 => h9) rfl dX12_rule_234 ?_
              refine lv_aload_n hx hb dX12_rule_237 rfl (lv_at hl 1 rfl) ?_
              refine va_get (D := (dC, dI)) (ci := 12) (v := .int 0) (C := RX12) (T := TX12) (N := 75) hx hb ht inX12 hown hK hP 0 rfl rfl 23 (by decide) (ht _ m_1162) (fun _ h9 => h9) rfl dX12_rule_238 ?_
              refine lv_iload_n hx hb dX12_rule_241 rfl (lv_at hl 0 rfl) ?_
              refine va_iast (D := (dC, dI)) hx hb hK hP hD hS 1 0 rfl rfl (vp_in_iff.mpr (by decide)) dX12_rule_242 (fun H locs hP hD hS => ?_)
              obtain ⟨f8, hP, hD⟩ : ∃ f8 : Nat → Int32, va_P (dC, dI) classes [(h, .inr (12, (o12 h g))), ((g 12 25), .inl ((ca 12 25), 8, .inl f8)), ((g 12 24), .inl ((ca 12 24), 8, .inl (fun _ => 0)))] H ∧ va_D A [(h, .inr (12, (o12 h g))), ((g 12 25), .inl ((ca 12 25), 8, .inl f8)), ((g 12 24), .inl ((ca 12 24), 8, .inl (fun _ => 0)))] := ⟨_, hP, hD⟩
              refine lv_aload_n hx hb dX12_rule_243 rfl (lv_at hl 1 rfl) ?_
              refine va_get (D := (dC, dI)) (ci := 12) (v := .ref (g 12 24)) (C := RX12) (T := TX12) (N := 75) hx hb ht inX12 hown hK hP 0 rfl rfl 24 (by decide) (ht _ m_1163) (fun _ h9 => h9) rfl dX12_rule_244 ?_
              refine lv_aload_n hx hb dX12_rule_247 rfl (lv_at hl 1 rfl) ?_
              refine va_get (D := (dC, dI)) (ci := 12) (v := .int 0) (C := RX12) (T := TX12) (N := 75) hx hb ht inX12 hown hK hP 0 rfl rfl 23 (by decide) (ht _ m_1162) (fun _ h9 => h9) rfl dX12_rule_248 ?_
              refine lv_iload_n hx hb dX12_rule_251 rfl (lv_at hl 2 rfl) ?_
              refine va_iast (D := (dC, dI)) hx hb hK hP hD hS 2 1 rfl rfl (vp_in_iff.mpr (by decide)) dX12_rule_252 (fun H locs hP hD hS => ?_)
              obtain ⟨f9, hP, hD⟩ : ∃ f9 : Nat → Int32, va_P (dC, dI) classes [(h, .inr (12, (o12 h g))), ((g 12 25), .inl ((ca 12 25), 8, .inl f8)), ((g 12 24), .inl ((ca 12 24), 8, .inl f9))] H ∧ va_D A [(h, .inr (12, (o12 h g))), ((g 12 25), .inl ((ca 12 25), 8, .inl f8)), ((g 12 24), .inl ((ca 12 24), 8, .inl f9))] := ⟨_, hP, hD⟩
              refine lv_aload_n hx hb dX12_rule_253 rfl (lv_at hl 1 rfl) ?_
              refine lv_dup hx hb dX12_rule_254 rfl ?_
              refine va_get (D := (dC, dI)) (ci := 12) (v := .int 0) (C := RX12) (T := TX12) (N := 75) hx hb ht inX12 hown hK hP 0 rfl rfl 23 (by decide) (ht _ m_1162) (fun _ h9 => h9) rfl dX12_rule_255 ?_
              refine lv_iconst (v := 1) hx hb dX12_rule_258 (by decide) ?_
              refine lv_iadd hx hb dX12_rule_259 ?_
              refine lv_topi (fun v10 ev10 => ?_)
              obtain rfl : 1 = v10 := (ev10.trans (by decide)).symm
              refine va_put (D := (dC, dI)) (ci := 12) (v := .int 1) (ty := (.int)) (C := RX12) (T := TX12) (N := 75) hx hb ht inX12 tyX12 tyX12_ok nmX12 hown hK hP hD hS 0 rfl rfl 23 (by decide) (ht _ m_1162) (fun _ h9 => h9) rfl (by decide +kernel) rfl rfl (Nat.le_of_ble_eq_true rfl) dX12_rule_260 (fun H locs hP hD hS => ?_)
              have hP : va_P (dC, dI) classes [(h, .inr (12, ((o12 h g).set 23 (.int 1)))), ((g 12 25), .inl ((ca 12 25), 8, .inl f8)), ((g 12 24), .inl ((ca 12 24), 8, .inl f9))] H := hP
              have hD : va_D A [(h, .inr (12, ((o12 h g).set 23 (.int 1)))), ((g 12 25), .inl ((ca 12 25), 8, .inl f8)), ((g 12 24), .inl ((ca 12 24), 8, .inl f9))] := hD
              refine lv_aload_n hx hb dX12_rule_263 rfl (lv_at hl 1 rfl) ?_
              refine va_get (D := (dC, dI)) (ci := 12) (v := .int 1) (C := RX12) (T := TX12) (N := 75) hx hb ht inX12 hown hK hP 0 rfl rfl 23 (by decide) (ht _ m_1162) (fun _ h9 => h9) rfl dX12_rule_264 ?_
              refine lv_iconst (v := 1) hx hb dX12_rule_267 (by decide) ?_
              refine lv_isub hx hb dX12_rule_268 ?_
              refine lv_topi (fun v11 ev11 => ?_)
              obtain rfl : 0 = v11 := (ev11.trans (by decide)).symm
              exact W.iret (v := 0) hx hb hr (fun t ht9 hW => ⟨⟨0, (), rfl, (by unfold F_rule; first | decide | ((repeat' split) <;> first | rfl | (exfalso; omega) | exact z_of (by decide) (by omega))), trivial⟩, hS.F ht9⟩) hS.2.2 dX12_rule_269
            · exact absurd c7 (by decide)
          · exact absurd c6 (by decide)
      · exact absurd c3 (by decide)
    · exact absurd c2 (by decide)
  · skip
    refine lv_if_ne (tgt := 10) hx hb dX12_rule_4 (by decide) (fun c12 => ?_) (fun c12 => ?_)
    · exact absurd rfl c12
    · skip
      refine lv_ldc hx hb hown (ht _ m_1373) dX12_rule_7 ?_
      exact W.iret (v := (-100002)) hx hb hr (fun t ht9 hW => ⟨⟨(-100002), (), rfl, (by unfold F_rule; first | decide | ((repeat' split) <;> first | rfl | (exfalso; omega) | exact z_of (by decide) (by omega))), trivial⟩, hS.F ht9⟩) hS.2.2 dX12_rule_9
set_option maxHeartbeats 4000000 in
set_option maxRecDepth 100000 in
/-- X12_fault -/
theorem c_X12_fault (l : Launch) (dC : Nat → ClassId) (dI : Nat → Nat → Nat) (h : Nat) (g : Nat → Nat → Nat) (ca : Nat → Nat → ClassId) : Met l yX12_fault (wc yX12_fault cX12_fault 1 (some .int)) ({ frames := 0, cells := 0, slots := 0, locals := 0 } : Room) (pR (dC, dI) classes [(h, .inr (12, (o12 h g)))] [] [.ref h]) (vp_Si (fun r => r = -1)) 0 0 (fun _ => False) := by
  refine Met.ofW (cc := cX12_fault) (maxL := 1) (ret := (some .int)) (by decide) rfl ?_
  intro p e s m args below meth c s₁ B hml hv
  obtain ⟨rfl, hP, hK⟩ := hv
  have hx := B.exec
  have hb := B.bytes
  have hr := B.returns
  have ht := tb_tl (atoms_spec (ws := wc yX12_fault cX12_fault 1 (some .int)) B.pre)
  have hown : s.vm.findClass RX12 = some m.cls := findClass_of_methodNamed B.named
  have hlocks := B.notSynchronized
  have hl := lv_entry [.ref h] (n := 1) (Nat.le_of_ble_eq_true rfl)
  rw [lg_entry_eq]
  generalize (lg_sl [.ref h] ++ List.replicate (1 - (lg_sl [.ref h]).length) Slot.unset).toArray = ls at hl ⊢
  have hl : lv_has ls 1 [(0, .ref h)] := hl
  refine lv_aload_n hx hb dX12_fault_0 rfl (lv_at hl 0 rfl) ?_
  refine va_get (D := (dC, dI)) (ci := 12) (v := .int (-1)) (C := RX12) (T := TX12) (N := 75) hx hb ht inX12 hown hK hP 0 rfl rfl 36 (by decide) (ht _ m_1175) (fun _ h9 => h9) rfl dX12_fault_1 ?_
  exact W.iret (v := (-1)) hx hb hr (fun t ht9 hW => ⟨(-1), rfl, rfl, ht9⟩) (fun q hq => by cases hq) dX12_fault_4
set_option maxHeartbeats 4000000 in
set_option maxRecDepth 100000 in
/-- X12_force -/
theorem c_X12_force (l : Launch) (dC : Nat → ClassId) (dI : Nat → Nat → Nat) (sz : Nat) (h : Nat) (g : Nat → Nat → Nat) (ca : Nat → Nat → ClassId) (n : Int32) (d : Int32) : Met l yX12_force (wc yX12_force cX12_force 3 (some .int)) ({ frames := 2, cells := 0, slots := 0, locals := 49 } : Room) (pW (dC, dI) classes [(h, .inr (12, (o12 h g)))] [] sz [.ref h, .int n, .int d]) (va_Qi (fun r (_ : Unit) => r = F_force n d) (fun _ _ => True) (va_A [(h, .inr (12, (o12 h g)))] sz)) 0 0 (va_A [(h, .inr (12, (o12 h g)))] sz) := by
  refine Met.ofW (cc := cX12_force) (maxL := 3) (ret := (some .int)) (by decide) rfl ?_
  intro p e s m args below meth c s₁ B hml hv
  obtain ⟨rfl, hsz, hP, hK, hD0⟩ := hv
  have hx := B.exec
  have hb := B.bytes
  have hr := B.returns
  have ht := tb_tl (atoms_spec (ws := wc yX12_force cX12_force 3 (some .int)) B.pre)
  have hown : s.vm.findClass RX12 = some m.cls := findClass_of_methodNamed B.named
  have hlocks := B.notSynchronized
  subst hsz
  have hD := hD0.self (sz := s.heap.size)
  generalize hAe : va_A [(h, .inr (12, (o12 h g)))] s.heap.size = A at hD ⊢
  have hA : ∀ q : Nat, s.heap.size ≤ q → A q := fun q h => by rw [← hAe]; exact Or.inr h
  have hS : va_S A s.heap s.heap [] := va_S.rf
  have hP : va_P (dC, dI) classes [(h, .inr (12, (o12 h g)))] s.heap := hP
  have hl := lv_entry [.ref h, .int n, .int d] (n := 3) (Nat.le_of_ble_eq_true rfl)
  rw [lg_entry_eq]
  generalize (lg_sl [.ref h, .int n, .int d] ++ List.replicate (3 - (lg_sl [.ref h, .int n, .int d]).length) Slot.unset).toArray = ls at hl ⊢
  have hl : lv_has ls 3 [(0, .ref h), (1, .int n), (2, .int d)] := hl
  refine lv_iload_n hx hb dX12_force_0 rfl (lv_at hl 1 rfl) ?_
  refine lv_i2l (v := (n.toInt64)) hx hb dX12_force_1 rfl ?_
  refine lv_lconst (v := 0) hx hb dX12_force_2 (by decide) ?_
  refine lv_ldc2 hx hb hown (ht _ m_1508) dX12_force_3 ?_
  have hPc := hP.sub (ws' := []) [] rfl
  have hKc := hK.sub (tys' := []) [] rfl
  refine vp_callSi (W.runS (As := [.long (n.toInt64), .long 0, .long 5]) (rest := []) ⟨hx, hb, hml, hown, ht⟩ (c_X12_in l dC dI (n.toInt64) 0 5 (n.toInt) (0) (5) ((Int32.toInt_toInt64 n).trans rfl) (by decide : (0 : Int64).toInt = 0) (by decide : (5 : Int64).toInt = 5)) (kS 3 ht m_1370 m_1371 m_89 m_1372 rfl rfl hd_X12_in_v ⟨Nat.le_of_ble_eq_true rfl, Nat.le_of_ble_eq_true rfl⟩) (sR hPc hKc) rfl rfl hl.1 rfl (lv_room (Nat.le_of_ble_eq_true rfl)) dX12_force_6 ⟨Nat.le_of_ble_eq_true rfl, Nat.le_of_ble_eq_true rfl⟩) (fun r1 hr1 => ?_)
  rcases hr1 with ⟨rfl, fr1⟩ | ⟨rfl, fr1⟩
  · skip
    refine lv_if_eq (tgt := 28) hx hb dX12_force_9 (by decide) (fun c2 => ?_) (fun c2 => ?_)
    · exact absurd c2 (by decide)
    · skip
      refine lv_iload_n hx hb dX12_force_12 rfl (lv_at hl 2 rfl) ?_
      have hPc := hP.sub (ws' := []) [] rfl
      have hKc := hK.sub (tys' := []) [] rfl
      refine vp_callSi (W.runS (As := [.int d]) (rest := []) ⟨hx, hb, hml, hown, ht⟩ (c_X12_isDay l dC dI d) (kS 1 ht m_1422 m_1423 m_89 m_1424 rfl rfl hd_X12_isDay_v ⟨Nat.le_of_ble_eq_true rfl, Nat.le_of_ble_eq_true rfl⟩) (sR hPc hKc) rfl rfl hl.1 rfl (lv_room (Nat.le_of_ble_eq_true rfl)) dX12_force_13 ⟨Nat.le_of_ble_eq_true rfl, Nat.le_of_ble_eq_true rfl⟩) (fun r3 hr3 => ?_)
      rcases hr3 with ⟨rfl, fr3⟩ | ⟨rfl, fr3⟩
      · skip
        refine lv_if_eq (tgt := 28) hx hb dX12_force_16 (by decide) (fun c4 => ?_) (fun c4 => ?_)
        · exact absurd c4 (by decide)
        · skip
          refine lv_aload_n hx hb dX12_force_19 rfl (lv_at hl 0 rfl) ?_
          refine lv_iload_n hx hb dX12_force_20 rfl (lv_at hl 1 rfl) ?_
          refine lv_iload_n hx hb dX12_force_21 rfl (lv_at hl 2 rfl) ?_
          have hPc := hP.sub (ws' := [(h, .inr (12, (o12 h g)))]) [0] rfl
          have hKc := hK.sub (tys' := []) [] rfl
          have hDc := hD.sub (ws' := [(h, .inr (12, (o12 h g)))]) [0] (by decide) rfl
          have hFc := va_free (wc := [(h, .inr (12, (o12 h g)))]) hD hS hA [0] rfl
          refine va_calli (va_runV (As := [.int n, .int d]) (rest := []) ⟨hx, hb, hml, hown, ht⟩ (c_X12_forceOf l dC dI s.heap.size h g ca n d) (kV 2 ht m_1509 m_1511 m_55 m_89 m_1512 rfl rfl hd_X12_forceOf_v ⟨Nat.le_of_ble_eq_true rfl, Nat.le_of_ble_eq_true rfl⟩) (vW hPc hKc hDc (va_recv hKc hPc (ci := 12) (q0 := 0) rfl rfl)) rfl rfl hl.1 rfl (lv_room (Nat.le_of_ble_eq_true rfl)) dX12_force_22 ⟨Nat.le_of_ble_eq_true rfl, Nat.le_of_ble_eq_true rfl⟩) hS (fun q _ h => hFc q h) hFc (fun r5 u t H1 locs ht9 hvm hr5 hB hz1 hk1 hS => ?_)
          have hP1 : va_P (dC, dI) classes [] H1 := noP
          have hD1 : va_D (va_A [(h, .inr (12, (o12 h g)))] s.heap.size) [] := noD
          obtain ⟨hP, hD⟩ := va_join (wr := []) (w1 := []) hP hD [0] [] rfl rfl (by decide) (by decide) hk1 hFc hP1 hD1
          generalize H1 = H at hP hS ⊢
          have hP : va_P (dC, dI) classes [] H := hP
          have hD : va_D A [] := hD
          obtain rfl : (F_atF n) = r5 := hr5.symm
          refine lv_goto (tgt := 30) hx hb dX12_force_25 (by decide) ?_
          exact W.iret (v := (F_atF n)) hx hb hr (fun t ht9 hW => ⟨⟨(F_atF n), (), rfl, (by unfold F_force; first | decide | ((repeat' split) <;> first | rfl | (exfalso; omega) | exact z_of (by decide) (by omega))), trivial⟩, hS.F ht9⟩) hS.2.2 dX12_force_30
      · skip
        refine lv_if_eq (tgt := 28) hx hb dX12_force_16 (by decide) (fun c6 => ?_) (fun c6 => ?_)
        · skip
          refine lv_ldc hx hb hown (ht _ m_1373) dX12_force_28 ?_
          exact W.iret (v := (-100002)) hx hb hr (fun t ht9 hW => ⟨⟨(-100002), (), rfl, (by unfold F_force; first | decide | ((repeat' split) <;> first | rfl | (exfalso; omega) | exact z_of (by decide) (by omega))), trivial⟩, hS.F ht9⟩) hS.2.2 dX12_force_30
        · exact absurd rfl c6
  · skip
    refine lv_if_eq (tgt := 28) hx hb dX12_force_9 (by decide) (fun c7 => ?_) (fun c7 => ?_)
    · skip
      refine lv_ldc hx hb hown (ht _ m_1373) dX12_force_28 ?_
      exact W.iret (v := (-100002)) hx hb hr (fun t ht9 hW => ⟨⟨(-100002), (), rfl, (by unfold F_force; first | decide | ((repeat' split) <;> first | rfl | (exfalso; omega) | exact z_of (by decide) (by omega))), trivial⟩, hS.F ht9⟩) hS.2.2 dX12_force_30
    · exact absurd rfl c7
set_option maxHeartbeats 4000000 in
set_option maxRecDepth 100000 in
/-- X12_load -/
theorem c_X12_load (l : Launch) (dC : Nat → ClassId) (dI : Nat → Nat → Nat) (sz : Nat) (h : Nat) (g : Nat → Nat → Nat) (ca : Nat → Nat → ClassId) (n : Int32) : Met l yX12_load (wc yX12_load cX12_load 2 (some .int)) ({ frames := 1, cells := 0, slots := 0, locals := 25 } : Room) (pW (dC, dI) classes [(h, .inr (12, (o12 h g))), ((g 12 58), .inl ((ca 12 58), 8, .inl (fun _ => 0)))] [((ca 12 58), .int)] sz [.ref h, .int n]) (va_Qi (fun r (_ : Unit) => r = F_load n) (fun _ _ => True) (va_A [(h, .inr (12, (o12 h g))), ((g 12 58), .inl ((ca 12 58), 8, .inl (fun _ => 0)))] sz)) 0 0 (va_A [(h, .inr (12, (o12 h g))), ((g 12 58), .inl ((ca 12 58), 8, .inl (fun _ => 0)))] sz) := by
  refine Met.ofW (cc := cX12_load) (maxL := 2) (ret := (some .int)) (by decide) rfl ?_
  intro p e s m args below meth c s₁ B hml hv
  obtain ⟨rfl, hsz, hP, hK, hD0⟩ := hv
  have hx := B.exec
  have hb := B.bytes
  have hr := B.returns
  have ht := tb_tl (atoms_spec (ws := wc yX12_load cX12_load 2 (some .int)) B.pre)
  have hown : s.vm.findClass RX12 = some m.cls := findClass_of_methodNamed B.named
  have hlocks := B.notSynchronized
  subst hsz
  have hD := hD0.self (sz := s.heap.size)
  generalize hAe : va_A [(h, .inr (12, (o12 h g))), ((g 12 58), .inl ((ca 12 58), 8, .inl (fun _ => 0)))] s.heap.size = A at hD ⊢
  have hA : ∀ q : Nat, s.heap.size ≤ q → A q := fun q h => by rw [← hAe]; exact Or.inr h
  have hS : va_S A s.heap s.heap [] := va_S.rf
  have hP : va_P (dC, dI) classes [(h, .inr (12, (o12 h g))), ((g 12 58), .inl ((ca 12 58), 8, .inl (fun _ => 0)))] s.heap := hP
  have hl := lv_entry [.ref h, .int n] (n := 2) (Nat.le_of_ble_eq_true rfl)
  rw [lg_entry_eq]
  generalize (lg_sl [.ref h, .int n] ++ List.replicate (2 - (lg_sl [.ref h, .int n]).length) Slot.unset).toArray = ls at hl ⊢
  have hl : lv_has ls 2 [(0, .ref h), (1, .int n)] := hl
  refine lv_iload_n hx hb dX12_load_0 rfl (lv_at hl 1 rfl) ?_
  refine lv_i2l (v := (n.toInt64)) hx hb dX12_load_1 rfl ?_
  refine lv_lconst (v := 1) hx hb dX12_load_2 (by decide) ?_
  refine lv_ldc2 hx hb hown (ht _ m_1369) dX12_load_3 ?_
  have hPc := hP.sub (ws' := []) [] rfl
  have hKc := hK.sub (tys' := []) [] rfl
  refine vp_callSi (W.runS (As := [.long (n.toInt64), .long 1, .long 999]) (rest := []) ⟨hx, hb, hml, hown, ht⟩ (c_X12_in l dC dI (n.toInt64) 1 999 (n.toInt) (1) (999) ((Int32.toInt_toInt64 n).trans rfl) (by decide : (1 : Int64).toInt = 1) (by decide : (999 : Int64).toInt = 999)) (kS 3 ht m_1370 m_1371 m_89 m_1372 rfl rfl hd_X12_in_v ⟨Nat.le_of_ble_eq_true rfl, Nat.le_of_ble_eq_true rfl⟩) (sR hPc hKc) rfl rfl hl.1 rfl (lv_room (Nat.le_of_ble_eq_true rfl)) dX12_load_6 ⟨Nat.le_of_ble_eq_true rfl, Nat.le_of_ble_eq_true rfl⟩) (fun r1 hr1 => ?_)
  rcases hr1 with ⟨rfl, fr1⟩ | ⟨rfl, fr1⟩
  · skip
    refine lv_if_ne (tgt := 15) hx hb dX12_load_9 (by decide) (fun c2 => ?_) (fun c2 => ?_)
    · skip
      refine lv_aload_n hx hb dX12_load_15 rfl (lv_at hl 0 rfl) ?_
      refine va_get (D := (dC, dI)) (ci := 12) (v := .int 0) (C := RX12) (T := TX12) (N := 75) hx hb ht inX12 hown hK hP 0 rfl rfl 57 (by decide) (ht _ m_1196) (fun _ h9 => h9) rfl dX12_load_16 ?_
      refine lv_bipush (v := 8) hx hb dX12_load_19 (by decide) ?_
      refine lv_icmp_ne (tgt := 27) hx hb dX12_load_21 (by decide) (fun c3 => ?_) (fun c3 => ?_)
      · skip
        refine lv_aload_n hx hb dX12_load_27 rfl (lv_at hl 0 rfl) ?_
        refine va_get (D := (dC, dI)) (ci := 12) (v := .ref (g 12 58)) (C := RX12) (T := TX12) (N := 75) hx hb ht inX12 hown hK hP 0 rfl rfl 58 (by decide) (ht _ m_1197) (fun _ h9 => h9) rfl dX12_load_28 ?_
        refine lv_aload_n hx hb dX12_load_31 rfl (lv_at hl 0 rfl) ?_
        refine va_get (D := (dC, dI)) (ci := 12) (v := .int 0) (C := RX12) (T := TX12) (N := 75) hx hb ht inX12 hown hK hP 0 rfl rfl 57 (by decide) (ht _ m_1196) (fun _ h9 => h9) rfl dX12_load_32 ?_
        refine lv_iload_n hx hb dX12_load_35 rfl (lv_at hl 1 rfl) ?_
        refine va_iast (D := (dC, dI)) hx hb hK hP hD hS 1 0 rfl rfl (vp_in_iff.mpr (by decide)) dX12_load_36 (fun H locs hP hD hS => ?_)
        obtain ⟨f4, hP, hD⟩ : ∃ f4 : Nat → Int32, va_P (dC, dI) classes [(h, .inr (12, (o12 h g))), ((g 12 58), .inl ((ca 12 58), 8, .inl f4))] H ∧ va_D A [(h, .inr (12, (o12 h g))), ((g 12 58), .inl ((ca 12 58), 8, .inl f4))] := ⟨_, hP, hD⟩
        refine lv_aload_n hx hb dX12_load_37 rfl (lv_at hl 0 rfl) ?_
        refine lv_dup hx hb dX12_load_38 rfl ?_
        refine va_get (D := (dC, dI)) (ci := 12) (v := .int 0) (C := RX12) (T := TX12) (N := 75) hx hb ht inX12 hown hK hP 0 rfl rfl 57 (by decide) (ht _ m_1196) (fun _ h9 => h9) rfl dX12_load_39 ?_
        refine lv_iconst (v := 1) hx hb dX12_load_42 (by decide) ?_
        refine lv_iadd hx hb dX12_load_43 ?_
        refine lv_topi (fun v5 ev5 => ?_)
        obtain rfl : 1 = v5 := (ev5.trans (by decide)).symm
        refine va_put (D := (dC, dI)) (ci := 12) (v := .int 1) (ty := (.int)) (C := RX12) (T := TX12) (N := 75) hx hb ht inX12 tyX12 tyX12_ok nmX12 hown hK hP hD hS 0 rfl rfl 57 (by decide) (ht _ m_1196) (fun _ h9 => h9) rfl (by decide +kernel) rfl rfl (Nat.le_of_ble_eq_true rfl) dX12_load_44 (fun H locs hP hD hS => ?_)
        have hP : va_P (dC, dI) classes [(h, .inr (12, ((o12 h g).set 57 (.int 1)))), ((g 12 58), .inl ((ca 12 58), 8, .inl f4))] H := hP
        have hD : va_D A [(h, .inr (12, ((o12 h g).set 57 (.int 1)))), ((g 12 58), .inl ((ca 12 58), 8, .inl f4))] := hD
        refine lv_aload_n hx hb dX12_load_47 rfl (lv_at hl 0 rfl) ?_
        refine va_get (D := (dC, dI)) (ci := 12) (v := .int 1) (C := RX12) (T := TX12) (N := 75) hx hb ht inX12 hown hK hP 0 rfl rfl 57 (by decide) (ht _ m_1196) (fun _ h9 => h9) rfl dX12_load_48 ?_
        exact W.iret (v := 1) hx hb hr (fun t ht9 hW => ⟨⟨1, (), rfl, (by unfold F_load; first | decide | ((repeat' split) <;> first | rfl | (exfalso; omega) | exact z_of (by decide) (by omega))), trivial⟩, hS.F ht9⟩) hS.2.2 dX12_load_51
      · exact absurd c3 (by decide)
    · exact absurd c2 (by decide)
  · skip
    refine lv_if_ne (tgt := 15) hx hb dX12_load_9 (by decide) (fun c6 => ?_) (fun c6 => ?_)
    · exact absurd rfl c6
    · skip
      refine lv_ldc hx hb hown (ht _ m_1373) dX12_load_12 ?_
      exact W.iret (v := (-100002)) hx hb hr (fun t ht9 hW => ⟨⟨(-100002), (), rfl, (by unfold F_load; first | decide | ((repeat' split) <;> first | rfl | (exfalso; omega) | exact z_of (by decide) (by omega))), trivial⟩, hS.F ht9⟩) hS.2.2 dX12_load_14
