set_option maxHeartbeats 4000000 in
set_option maxRecDepth 100000 in
/-- X12_order -/
theorem c_X12_order (l : Launch) (dC : Nat → ClassId) (dI : Nat → Nat → Nat) (sz : Nat) (h : Nat) (g : Nat → Nat → Nat) (ca : Nat → Nat → ClassId) (n : Int32) (i : Int32) : Met l yX12_order (wc yX12_order cX12_order 3 (some .int)) ({ frames := 2, cells := 0, slots := 0, locals := 49 } : Room) (pW (dC, dI) classes [(h, .inr (12, (o12 h g))), ((g 12 59), .inl ((ca 12 59), 3, .inl (fun _ => 0)))] [((ca 12 59), .int)] sz [.ref h, .int n, .int i]) (va_Qi (fun r (_ : Unit) => r = F_order n i) (fun _ _ => True) (va_A [(h, .inr (12, (o12 h g))), ((g 12 59), .inl ((ca 12 59), 3, .inl (fun _ => 0)))] sz)) 0 0 (va_A [(h, .inr (12, (o12 h g))), ((g 12 59), .inl ((ca 12 59), 3, .inl (fun _ => 0)))] sz) := by
  refine Met.ofW (cc := cX12_order) (maxL := 3) (ret := (some .int)) (by decide) rfl ?_
  intro p e s m args below meth c s₁ B hml hv
  obtain ⟨rfl, hsz, hP, hK, hD0⟩ := hv
  have hx := B.exec
  have hb := B.bytes
  have hr := B.returns
  have ht := tb_tl (atoms_spec (ws := wc yX12_order cX12_order 3 (some .int)) B.pre)
  have hown : s.vm.findClass RX12 = some m.cls := findClass_of_methodNamed B.named
  have hlocks := B.notSynchronized
  subst hsz
  have hD := hD0.self (sz := s.heap.size)
  generalize hAe : va_A [(h, .inr (12, (o12 h g))), ((g 12 59), .inl ((ca 12 59), 3, .inl (fun _ => 0)))] s.heap.size = A at hD ⊢
  have hA : ∀ q : Nat, s.heap.size ≤ q → A q := fun q h => by rw [← hAe]; exact Or.inr h
  have hS : va_S A s.heap s.heap [] := va_S.rf
  have hP : va_P (dC, dI) classes [(h, .inr (12, (o12 h g))), ((g 12 59), .inl ((ca 12 59), 3, .inl (fun _ => 0)))] s.heap := hP
  have hl := lv_entry [.ref h, .int n, .int i] (n := 3) (Nat.le_of_ble_eq_true rfl)
  rw [lg_entry_eq]
  generalize (lg_sl [.ref h, .int n, .int i] ++ List.replicate (3 - (lg_sl [.ref h, .int n, .int i]).length) Slot.unset).toArray = ls at hl ⊢
  have hl : lv_has ls 3 [(0, .ref h), (1, .int n), (2, .int i)] := hl
  refine lv_iload_n hx hb dX12_order_0 rfl (lv_at hl 1 rfl) ?_
  refine lv_i2l (v := (n.toInt64)) hx hb dX12_order_1 rfl ?_
  refine lv_lconst (v := 1) hx hb dX12_order_2 (by decide) ?_
  refine lv_ldc2 hx hb hown (ht _ m_1391) dX12_order_3 ?_
  have hPc := hP.sub (ws' := []) [] rfl
  have hKc := hK.sub (tys' := []) [] rfl
  refine vp_callSi (W.runS (As := [.long (n.toInt64), .long 1, .long 3]) (rest := []) ⟨hx, hb, hml, hown, ht⟩ (c_X12_in l dC dI (n.toInt64) 1 3 (n.toInt) (1) (3) ((Int32.toInt_toInt64 n).trans rfl) (by decide : (1 : Int64).toInt = 1) (by decide : (3 : Int64).toInt = 3)) (kS 3 ht m_1370 m_1371 m_89 m_1372 rfl rfl hd_X12_in_v ⟨Nat.le_of_ble_eq_true rfl, Nat.le_of_ble_eq_true rfl⟩) (sR hPc hKc) rfl rfl hl.1 rfl (lv_room (Nat.le_of_ble_eq_true rfl)) dX12_order_6 ⟨Nat.le_of_ble_eq_true rfl, Nat.le_of_ble_eq_true rfl⟩) (fun r1 hr1 => ?_)
  rcases hr1 with ⟨rfl, fr1⟩ | ⟨rfl, fr1⟩
  · skip
    refine lv_if_ne (tgt := 15) hx hb dX12_order_9 (by decide) (fun c2 => ?_) (fun c2 => ?_)
    · skip
      refine lv_aload_n hx hb dX12_order_15 rfl (lv_at hl 0 rfl) ?_
      refine lv_iload_n hx hb dX12_order_16 rfl (lv_at hl 1 rfl) ?_
      have hPc := hP.sub (ws' := [(h, .inr (12, (o12 h g))), ((g 12 59), .inl ((ca 12 59), 3, .inl (fun _ => 0)))]) [0, 1] rfl
      have hKc := hK.sub (tys' := [((ca 12 59), .int)]) [0] rfl
      have hDc := hD.sub (ws' := [(h, .inr (12, (o12 h g))), ((g 12 59), .inl ((ca 12 59), 3, .inl (fun _ => 0)))]) [0, 1] (by decide) rfl
      have hFc := va_free (wc := [(h, .inr (12, (o12 h g))), ((g 12 59), .inl ((ca 12 59), 3, .inl (fun _ => 0)))]) hD hS hA [0, 1] rfl
      refine va_callv (va_runV (As := [.int n]) (rest := []) ⟨hx, hb, hml, hown, ht⟩ (c_X12_findOrder l dC dI s.heap.size h g ca n) (kV 1 ht m_1645 m_1647 m_69 m_89 m_1648 rfl rfl hd_X12_findOrder_v ⟨Nat.le_of_ble_eq_true rfl, Nat.le_of_ble_eq_true rfl⟩) (vW hPc hKc hDc (va_recv hKc hPc (ci := 12) (q0 := 0) rfl rfl)) rfl rfl hl.1 rfl (lv_room (Nat.le_of_ble_eq_true rfl)) dX12_order_17 ⟨Nat.le_of_ble_eq_true rfl, Nat.le_of_ble_eq_true rfl⟩) hS (fun q _ h => hFc q h) hFc (fun u t H1 locs ht9 hvm hw hB hz1 hk1 hS => ?_)
      obtain ⟨hP1, hD1⟩ := hB
      rw [ht9] at hP1
      obtain ⟨hP, hD⟩ := va_join (wr := []) (w1 := [(h, .inr (12, (o12 h g)))]) hP hD [0, 1] [] rfl rfl (by decide) (by decide) hk1 hFc hP1 hD1
      generalize H1 = H at hP hS ⊢
      have hP : va_P (dC, dI) classes [(h, .inr (12, (o12 h g)))] H := hP
      have hD : va_D A [(h, .inr (12, (o12 h g)))] := hD
      refine lv_iload_n hx hb dX12_order_20 rfl (lv_at hl 2 rfl) ?_
      refine lv_iconst (v := (-1)) hx hb dX12_order_21 (by decide) ?_
      refine lv_icmp_ne (tgt := 32) hx hb dX12_order_22 (by decide) (fun c4 => ?_) (fun c4 => ?_)
      · have fc4 := z_ne (rfl : (i).toInt = _) (by decide : ((-1) : Int32).toInt = (-1)) c4
        refine lv_iload_n hx hb dX12_order_32 rfl (lv_at hl 2 rfl) ?_
        refine lv_i2l (v := (i.toInt64)) hx hb dX12_order_33 rfl ?_
        refine lv_lconst (v := 0) hx hb dX12_order_34 (by decide) ?_
        refine lv_aload_n hx hb dX12_order_35 rfl (lv_at hl 0 rfl) ?_
        refine va_get (D := (dC, dI)) (ci := 12) (v := .int 0) (C := RX12) (T := TX12) (N := 75) hx hb ht inX12 hown hK hP 0 rfl rfl 57 (by decide) (ht _ m_1196) (fun _ h9 => h9) rfl dX12_order_36 ?_
        refine lv_iconst (v := 1) hx hb dX12_order_39 (by decide) ?_
        refine lv_isub hx hb dX12_order_40 ?_
        refine lv_topi (fun v5 ev5 => ?_)
        obtain rfl : (-1) = v5 := (ev5.trans (by decide)).symm
        refine lv_i2l (v := (-1)) hx hb dX12_order_41 (by decide) ?_
        have hPc := hP.sub (ws' := []) [] rfl
        have hKc := hK.sub (tys' := []) [] rfl
        refine vp_callSi (W.runS (As := [.long (i.toInt64), .long 0, .long (-1)]) (rest := []) ⟨hx, hb, hml, hown, ht⟩ (c_X12_in l dC dI (i.toInt64) 0 (-1) (i.toInt) (0) ((-1)) ((Int32.toInt_toInt64 i).trans rfl) (by decide : (0 : Int64).toInt = 0) (by decide : ((-1) : Int64).toInt = (-1))) (kS 3 ht m_1370 m_1371 m_89 m_1372 rfl rfl hd_X12_in_v ⟨Nat.le_of_ble_eq_true rfl, Nat.le_of_ble_eq_true rfl⟩) (sR hPc hKc) rfl rfl hl.1 rfl (lv_room (Nat.le_of_ble_eq_true rfl)) dX12_order_42 ⟨Nat.le_of_ble_eq_true rfl, Nat.le_of_ble_eq_true rfl⟩) (fun r6 hr6 => ?_)
        rcases hr6 with ⟨rfl, fr6⟩ | ⟨rfl, fr6⟩
        · exfalso; omega
        · skip
          refine lv_if_eq (tgt := 61) hx hb dX12_order_45 (by decide) (fun c7 => ?_) (fun c7 => ?_)
          · skip
            refine lv_iconst (v := (-1)) hx hb dX12_order_61 (by decide) ?_
            exact W.iret (v := (-1)) hx hb hr (fun t ht9 hW => ⟨⟨(-1), (), rfl, (by unfold F_order; first | decide | ((repeat' split) <;> first | rfl | (exfalso; omega) | exact z_of (by decide) (by omega))), trivial⟩, hS.F ht9⟩) hS.2.2 dX12_order_62
          · exact absurd rfl c7
      · have fc4 := z_eq (rfl : (i).toInt = _) (by decide : ((-1) : Int32).toInt = (-1)) c4
        refine lv_aload_n hx hb dX12_order_25 rfl (lv_at hl 0 rfl) ?_
        refine va_get (D := (dC, dI)) (ci := 12) (v := .int 0) (C := RX12) (T := TX12) (N := 75) hx hb ht inX12 hown hK hP 0 rfl rfl 61 (by decide) (ht _ m_1200) (fun _ h9 => h9) rfl dX12_order_26 ?_
        refine lv_goto (tgt := 62) hx hb dX12_order_29 (by decide) ?_
        exact W.iret (v := 0) hx hb hr (fun t ht9 hW => ⟨⟨0, (), rfl, (by unfold F_order; first | decide | ((repeat' split) <;> first | rfl | (exfalso; omega) | exact z_of (by decide) (by omega))), trivial⟩, hS.F ht9⟩) hS.2.2 dX12_order_62
    · exact absurd c2 (by decide)
  · skip
    refine lv_if_ne (tgt := 15) hx hb dX12_order_9 (by decide) (fun c8 => ?_) (fun c8 => ?_)
    · exact absurd rfl c8
    · skip
      refine lv_ldc hx hb hown (ht _ m_1373) dX12_order_12 ?_
      exact W.iret (v := (-100002)) hx hb hr (fun t ht9 hW => ⟨⟨(-100002), (), rfl, (by unfold F_order; first | decide | ((repeat' split) <;> first | rfl | (exfalso; omega) | exact z_of (by decide) (by omega))), trivial⟩, hS.F ht9⟩) hS.2.2 dX12_order_14
set_option maxHeartbeats 4000000 in
set_option maxRecDepth 100000 in
/-- X12_empty -/
theorem c_X12_empty (l : Launch) (dC : Nat → ClassId) (dI : Nat → Nat → Nat) (sz : Nat) (h : Nat) (g : Nat → Nat → Nat) (ca : Nat → Nat → ClassId) : Met l yX12_empty (wc yX12_empty cX12_empty 2 (some .int)) ({ frames := 0, cells := 0, slots := 0, locals := 0 } : Room) (pW (dC, dI) classes [(h, .inr (12, (o12 h g)))] [] sz [.ref h]) (va_Qi (fun r (_ : Unit) => r = 0) (fun _ _ => True) (va_A [(h, .inr (12, (o12 h g)))] sz)) 0 0 (va_A [(h, .inr (12, (o12 h g)))] sz) := by
  refine Met.ofW (cc := cX12_empty) (maxL := 2) (ret := (some .int)) (by decide) rfl ?_
  intro p e s m args below meth c s₁ B hml hv
  obtain ⟨rfl, hsz, hP, hK, hD0⟩ := hv
  have hx := B.exec
  have hb := B.bytes
  have hr := B.returns
  have ht := tb_tl (atoms_spec (ws := wc yX12_empty cX12_empty 2 (some .int)) B.pre)
  have hown : s.vm.findClass RX12 = some m.cls := findClass_of_methodNamed B.named
  have hlocks := B.notSynchronized
  subst hsz
  have hD := hD0.self (sz := s.heap.size)
  generalize hAe : va_A [(h, .inr (12, (o12 h g)))] s.heap.size = A at hD ⊢
  have hA : ∀ q : Nat, s.heap.size ≤ q → A q := fun q h => by rw [← hAe]; exact Or.inr h
  have hS : va_S A s.heap s.heap [] := va_S.rf
  have hP : va_P (dC, dI) classes [(h, .inr (12, (o12 h g)))] s.heap := hP
  have hl := lv_entry [.ref h] (n := 2) (Nat.le_of_ble_eq_true rfl)
  rw [lg_entry_eq]
  generalize (lg_sl [.ref h] ++ List.replicate (2 - (lg_sl [.ref h]).length) Slot.unset).toArray = ls at hl ⊢
  have hl : lv_has ls 2 [(0, .ref h)] := hl
  refine lv_aload_n hx hb dX12_empty_0 rfl (lv_at hl 0 rfl) ?_
  refine va_get (D := (dC, dI)) (ci := 12) (v := .int 0) (C := RX12) (T := TX12) (N := 75) hx hb ht inX12 hown hK hP 0 rfl rfl 57 (by decide) (ht _ m_1196) (fun _ h9 => h9) rfl dX12_empty_1 ?_
  refine lv_istore_n (lv' := [(1, .int 0), (0, .ref h)]) hx hb dX12_empty_4 rfl hl (by decide) rfl (fun ls hl => ?_)
  refine lv_aload_n hx hb dX12_empty_5 rfl (lv_at hl 1 rfl) ?_
  refine lv_iconst (v := 0) hx hb dX12_empty_6 (by decide) ?_
  refine va_put (D := (dC, dI)) (ci := 12) (v := .int 0) (ty := (.int)) (C := RX12) (T := TX12) (N := 75) hx hb ht inX12 tyX12 tyX12_ok nmX12 hown hK hP hD hS 0 rfl rfl 57 (by decide) (ht _ m_1196) (fun _ h9 => h9) rfl (by decide +kernel) rfl rfl (Nat.le_of_ble_eq_true rfl) dX12_empty_7 (fun H locs hP hD hS => ?_)
  have hP : va_P (dC, dI) classes [(h, .inr (12, (o12 h g)))] H := hP
  have hD : va_D A [(h, .inr (12, (o12 h g)))] := hD
  refine lv_iload_n hx hb dX12_empty_10 rfl (lv_at hl 0 rfl) ?_
  exact W.iret (v := 0) hx hb hr (fun t ht9 hW => ⟨⟨0, (), rfl, rfl, trivial⟩, hS.F ht9⟩) hS.2.2 dX12_empty_11
set_option maxHeartbeats 4000000 in
set_option maxRecDepth 100000 in
/-- X12_shared -/
theorem c_X12_shared (l : Launch) (dC : Nat → ClassId) (dI : Nat → Nat → Nat) (sz : Nat) (h : Nat) (g : Nat → Nat → Nat) (ca : Nat → Nat → ClassId) (a : Int32) (b : Int32) (d : Int32) (k : Int32) : Met l yX12_shared (wc yX12_shared cX12_shared 5 (some .int)) ({ frames := 1, cells := 0, slots := 0, locals := 25 } : Room) (pW (dC, dI) classes [(h, .inr (12, (o12 h g))), ((g 12 63), .inl ((ca 12 63), 8, .inl (fun _ => 0))), ((g 12 64), .inl ((ca 12 64), 8, .inl (fun _ => 0)))] [((ca 12 63), .int), ((ca 12 64), .int)] sz [.ref h, .int a, .int b, .int d, .int k]) (va_Qi (fun r (_ : Unit) => r = F_shared a b d k) (fun _ _ => True) (va_A [(h, .inr (12, (o12 h g))), ((g 12 63), .inl ((ca 12 63), 8, .inl (fun _ => 0))), ((g 12 64), .inl ((ca 12 64), 8, .inl (fun _ => 0)))] sz)) 0 0 (va_A [(h, .inr (12, (o12 h g))), ((g 12 63), .inl ((ca 12 63), 8, .inl (fun _ => 0))), ((g 12 64), .inl ((ca 12 64), 8, .inl (fun _ => 0)))] sz) := by
  refine Met.ofW (cc := cX12_shared) (maxL := 5) (ret := (some .int)) (by decide) rfl ?_
  intro p e s m args below meth c s₁ B hml hv
  obtain ⟨rfl, hsz, hP, hK, hD0⟩ := hv
  have hx := B.exec
  have hb := B.bytes
  have hr := B.returns
  have ht := tb_tl (atoms_spec (ws := wc yX12_shared cX12_shared 5 (some .int)) B.pre)
  have hown : s.vm.findClass RX12 = some m.cls := findClass_of_methodNamed B.named
  have hlocks := B.notSynchronized
  subst hsz
  have hD := hD0.self (sz := s.heap.size)
  generalize hAe : va_A [(h, .inr (12, (o12 h g))), ((g 12 63), .inl ((ca 12 63), 8, .inl (fun _ => 0))), ((g 12 64), .inl ((ca 12 64), 8, .inl (fun _ => 0)))] s.heap.size = A at hD ⊢
  have hA : ∀ q : Nat, s.heap.size ≤ q → A q := fun q h => by rw [← hAe]; exact Or.inr h
  have hS : va_S A s.heap s.heap [] := va_S.rf
  have hP : va_P (dC, dI) classes [(h, .inr (12, (o12 h g))), ((g 12 63), .inl ((ca 12 63), 8, .inl (fun _ => 0))), ((g 12 64), .inl ((ca 12 64), 8, .inl (fun _ => 0)))] s.heap := hP
  have hl := lv_entry [.ref h, .int a, .int b, .int d, .int k] (n := 5) (Nat.le_of_ble_eq_true rfl)
  rw [lg_entry_eq]
  generalize (lg_sl [.ref h, .int a, .int b, .int d, .int k] ++ List.replicate (5 - (lg_sl [.ref h, .int a, .int b, .int d, .int k]).length) Slot.unset).toArray = ls at hl ⊢
  have hl : lv_has ls 5 [(0, .ref h), (1, .int a), (2, .int b), (3, .int d), (4, .int k)] := hl
  refine lv_iload_n hx hb dX12_shared_0 rfl (lv_at hl 1 rfl) ?_
  refine lv_i2l (v := (a.toInt64)) hx hb dX12_shared_1 rfl ?_
  refine lv_lconst (v := 1) hx hb dX12_shared_2 (by decide) ?_
  refine lv_iload_n hx hb dX12_shared_3 rfl (lv_at hl 2 rfl) ?_
  refine lv_i2l (v := (b.toInt64)) hx hb dX12_shared_4 rfl ?_
  have hPc := hP.sub (ws' := []) [] rfl
  have hKc := hK.sub (tys' := []) [] rfl
  refine vp_callSi (W.runS (As := [.long (a.toInt64), .long 1, .long (b.toInt64)]) (rest := []) ⟨hx, hb, hml, hown, ht⟩ (c_X12_in l dC dI (a.toInt64) 1 (b.toInt64) (a.toInt) (1) (b.toInt) ((Int32.toInt_toInt64 a).trans rfl) (by decide : (1 : Int64).toInt = 1) ((Int32.toInt_toInt64 b).trans rfl)) (kS 3 ht m_1370 m_1371 m_89 m_1372 rfl rfl hd_X12_in_v ⟨Nat.le_of_ble_eq_true rfl, Nat.le_of_ble_eq_true rfl⟩) (sR hPc hKc) rfl rfl hl.1 rfl (lv_room (Nat.le_of_ble_eq_true rfl)) dX12_shared_5 ⟨Nat.le_of_ble_eq_true rfl, Nat.le_of_ble_eq_true rfl⟩) (fun r1 hr1 => ?_)
  rcases hr1 with ⟨rfl, fr1⟩ | ⟨rfl, fr1⟩
  · skip
    refine lv_if_eq (tgt := 38) hx hb dX12_shared_8 (by decide) (fun c2 => ?_) (fun c2 => ?_)
    · exact absurd c2 (by decide)
    · skip
      refine lv_iload_n hx hb dX12_shared_11 rfl (lv_at hl 2 rfl) ?_
      refine lv_sipush (v := 9999) hx hb dX12_shared_12 (by decide) ?_
      refine lv_icmp_gt (tgt := 38) hx hb dX12_shared_15 (by decide) (fun c3 => ?_) (fun c3 => ?_)
      · have fc3 := z_lt (by decide : (9999 : Int32).toInt = 9999) (rfl : (b).toInt = _) c3
        refine lv_ldc hx hb hown (ht _ m_1373) dX12_shared_38 ?_
        exact W.iret (v := (-100002)) hx hb hr (fun t ht9 hW => ⟨⟨(-100002), (), rfl, (by unfold F_shared; first | decide | ((repeat' split) <;> first | rfl | (exfalso; omega) | exact z_of (by decide) (by omega))), trivial⟩, hS.F ht9⟩) hS.2.2 dX12_shared_40
      · have fc3 := z_nlt (by decide : (9999 : Int32).toInt = 9999) (rfl : (b).toInt = _) c3
        refine lv_iload_n hx hb dX12_shared_18 rfl (lv_at hl 3 rfl) ?_
        refine lv_i2l (v := (d.toInt64)) hx hb dX12_shared_19 rfl ?_
        refine lv_lconst (v := 1) hx hb dX12_shared_20 (by decide) ?_
        refine lv_iload hx hb dX12_shared_21 (lv_at hl 4 rfl) ?_
        refine lv_i2l (v := (k.toInt64)) hx hb dX12_shared_23 rfl ?_
        have hPc := hP.sub (ws' := []) [] rfl
        have hKc := hK.sub (tys' := []) [] rfl
        refine vp_callSi (W.runS (As := [.long (d.toInt64), .long 1, .long (k.toInt64)]) (rest := []) ⟨hx, hb, hml, hown, ht⟩ (c_X12_in l dC dI (d.toInt64) 1 (k.toInt64) (d.toInt) (1) (k.toInt) ((Int32.toInt_toInt64 d).trans rfl) (by decide : (1 : Int64).toInt = 1) ((Int32.toInt_toInt64 k).trans rfl)) (kS 3 ht m_1370 m_1371 m_89 m_1372 rfl rfl hd_X12_in_v ⟨Nat.le_of_ble_eq_true rfl, Nat.le_of_ble_eq_true rfl⟩) (sR hPc hKc) rfl rfl hl.1 rfl (lv_room (Nat.le_of_ble_eq_true rfl)) dX12_shared_24 ⟨Nat.le_of_ble_eq_true rfl, Nat.le_of_ble_eq_true rfl⟩) (fun r4 hr4 => ?_)
        rcases hr4 with ⟨rfl, fr4⟩ | ⟨rfl, fr4⟩
        · skip
          refine lv_if_eq (tgt := 38) hx hb dX12_shared_27 (by decide) (fun c5 => ?_) (fun c5 => ?_)
          · exact absurd c5 (by decide)
          · skip
            refine lv_iload hx hb dX12_shared_30 (lv_at hl 4 rfl) ?_
            refine lv_sipush (v := 9999) hx hb dX12_shared_32 (by decide) ?_
            refine lv_icmp_le (tgt := 41) hx hb dX12_shared_35 (by decide) (fun c6 => ?_) (fun c6 => ?_)
            · have fc6 := z_le (rfl : (k).toInt = _) (by decide : (9999 : Int32).toInt = 9999) c6
              refine lv_aload_n hx hb dX12_shared_41 rfl (lv_at hl 0 rfl) ?_
              refine va_get (D := (dC, dI)) (ci := 12) (v := .int 0) (C := RX12) (T := TX12) (N := 75) hx hb ht inX12 hown hK hP 0 rfl rfl 62 (by decide) (ht _ m_1201) (fun _ h9 => h9) rfl dX12_shared_42 ?_
              refine lv_bipush (v := 8) hx hb dX12_shared_45 (by decide) ?_
              refine lv_icmp_ne (tgt := 53) hx hb dX12_shared_47 (by decide) (fun c7 => ?_) (fun c7 => ?_)
              · skip
                refine lv_aload_n hx hb dX12_shared_53 rfl (lv_at hl 0 rfl) ?_
                refine va_get (D := (dC, dI)) (ci := 12) (v := .ref (g 12 63)) (C := RX12) (T := TX12) (N := 75) hx hb ht inX12 hown hK hP 0 rfl rfl 63 (by decide) (ht _ m_1202) (fun _ h9 => h9) rfl dX12_shared_54 ?_
                refine lv_aload_n hx hb dX12_shared_57 rfl (lv_at hl 0 rfl) ?_
                refine va_get (D := (dC, dI)) (ci := 12) (v := .int 0) (C := RX12) (T := TX12) (N := 75) hx hb ht inX12 hown hK hP 0 rfl rfl 62 (by decide) (ht _ m_1201) (fun _ h9 => h9) rfl dX12_shared_58 ?_
                refine lv_iload_n hx hb dX12_shared_61 rfl (lv_at hl 1 rfl) ?_
                refine lv_iload hx hb dX12_shared_62 (lv_at hl 4 rfl) ?_
                refine lv_isub hx hb dX12_shared_64 ?_
                refine lv_topi (fun v8 ev8 => ?_)
                have tv8 := z_sub ev8 (rfl : (a).toInt = _) (rfl : (k).toInt = _) (by omega) (by omega)
                refine va_iast (D := (dC, dI)) hx hb hK hP hD hS 1 0 rfl rfl (vp_in_iff.mpr (by decide)) dX12_shared_65 (fun H locs hP hD hS => ?_)
                obtain ⟨f9, hP, hD⟩ : ∃ f9 : Nat → Int32, va_P (dC, dI) classes [(h, .inr (12, (o12 h g))), ((g 12 63), .inl ((ca 12 63), 8, .inl f9)), ((g 12 64), .inl ((ca 12 64), 8, .inl (fun _ => 0)))] H ∧ va_D A [(h, .inr (12, (o12 h g))), ((g 12 63), .inl ((ca 12 63), 8, .inl f9)), ((g 12 64), .inl ((ca 12 64), 8, .inl (fun _ => 0)))] := ⟨_, hP, hD⟩
                refine lv_aload_n hx hb dX12_shared_66 rfl (lv_at hl 0 rfl) ?_
                refine va_get (D := (dC, dI)) (ci := 12) (v := .ref (g 12 64)) (C := RX12) (T := TX12) (N := 75) hx hb ht inX12 hown hK hP 0 rfl rfl 64 (by decide) (ht _ m_1203) (fun _ h9 => h9) rfl dX12_shared_67 ?_
                refine lv_aload_n hx hb dX12_shared_70 rfl (lv_at hl 0 rfl) ?_
                refine va_get (D := (dC, dI)) (ci := 12) (v := .int 0) (C := RX12) (T := TX12) (N := 75) hx hb ht inX12 hown hK hP 0 rfl rfl 62 (by decide) (ht _ m_1201) (fun _ h9 => h9) rfl dX12_shared_71 ?_
                refine lv_iload_n hx hb dX12_shared_74 rfl (lv_at hl 2 rfl) ?_
                refine lv_iload_n hx hb dX12_shared_75 rfl (lv_at hl 3 rfl) ?_
                refine lv_isub hx hb dX12_shared_76 ?_
                refine lv_topi (fun v10 ev10 => ?_)
                have tv10 := z_sub ev10 (rfl : (b).toInt = _) (rfl : (d).toInt = _) (by omega) (by omega)
                refine va_iast (D := (dC, dI)) hx hb hK hP hD hS 2 1 rfl rfl (vp_in_iff.mpr (by decide)) dX12_shared_77 (fun H locs hP hD hS => ?_)
                obtain ⟨f11, hP, hD⟩ : ∃ f11 : Nat → Int32, va_P (dC, dI) classes [(h, .inr (12, (o12 h g))), ((g 12 63), .inl ((ca 12 63), 8, .inl f9)), ((g 12 64), .inl ((ca 12 64), 8, .inl f11))] H ∧ va_D A [(h, .inr (12, (o12 h g))), ((g 12 63), .inl ((ca 12 63), 8, .inl f9)), ((g 12 64), .inl ((ca 12 64), 8, .inl f11))] := ⟨_, hP, hD⟩
                refine lv_aload_n hx hb dX12_shared_78 rfl (lv_at hl 0 rfl) ?_
                refine lv_dup hx hb dX12_shared_79 rfl ?_
                refine va_get (D := (dC, dI)) (ci := 12) (v := .int 0) (C := RX12) (T := TX12) (N := 75) hx hb ht inX12 hown hK hP 0 rfl rfl 62 (by decide) (ht _ m_1201) (fun _ h9 => h9) rfl dX12_shared_80 ?_
                refine lv_iconst (v := 1) hx hb dX12_shared_83 (by decide) ?_
                refine lv_iadd hx hb dX12_shared_84 ?_
                refine lv_topi (fun v12 ev12 => ?_)
                obtain rfl : 1 = v12 := (ev12.trans (by decide)).symm
                refine va_put (D := (dC, dI)) (ci := 12) (v := .int 1) (ty := (.int)) (C := RX12) (T := TX12) (N := 75) hx hb ht inX12 tyX12 tyX12_ok nmX12 hown hK hP hD hS 0 rfl rfl 62 (by decide) (ht _ m_1201) (fun _ h9 => h9) rfl (by decide +kernel) rfl rfl (Nat.le_of_ble_eq_true rfl) dX12_shared_85 (fun H locs hP hD hS => ?_)
                have hP : va_P (dC, dI) classes [(h, .inr (12, ((o12 h g).set 62 (.int 1)))), ((g 12 63), .inl ((ca 12 63), 8, .inl f9)), ((g 12 64), .inl ((ca 12 64), 8, .inl f11))] H := hP
                have hD : va_D A [(h, .inr (12, ((o12 h g).set 62 (.int 1)))), ((g 12 63), .inl ((ca 12 63), 8, .inl f9)), ((g 12 64), .inl ((ca 12 64), 8, .inl f11))] := hD
                refine lv_aload_n hx hb dX12_shared_88 rfl (lv_at hl 0 rfl) ?_
                refine va_get (D := (dC, dI)) (ci := 12) (v := .int 1) (C := RX12) (T := TX12) (N := 75) hx hb ht inX12 hown hK hP 0 rfl rfl 62 (by decide) (ht _ m_1201) (fun _ h9 => h9) rfl dX12_shared_89 ?_
                exact W.iret (v := 1) hx hb hr (fun t ht9 hW => ⟨⟨1, (), rfl, (by unfold F_shared; first | decide | ((repeat' split) <;> first | rfl | (exfalso; omega) | exact z_of (by decide) (by omega))), trivial⟩, hS.F ht9⟩) hS.2.2 dX12_shared_92
              · exact absurd c7 (by decide)
            · have fc6 := z_nle (rfl : (k).toInt = _) (by decide : (9999 : Int32).toInt = 9999) c6
              refine lv_ldc hx hb hown (ht _ m_1373) dX12_shared_38 ?_
              exact W.iret (v := (-100002)) hx hb hr (fun t ht9 hW => ⟨⟨(-100002), (), rfl, (by unfold F_shared; first | decide | ((repeat' split) <;> first | rfl | (exfalso; omega) | exact z_of (by decide) (by omega))), trivial⟩, hS.F ht9⟩) hS.2.2 dX12_shared_40
        · skip
          refine lv_if_eq (tgt := 38) hx hb dX12_shared_27 (by decide) (fun c13 => ?_) (fun c13 => ?_)
          · skip
            refine lv_ldc hx hb hown (ht _ m_1373) dX12_shared_38 ?_
            exact W.iret (v := (-100002)) hx hb hr (fun t ht9 hW => ⟨⟨(-100002), (), rfl, (by unfold F_shared; first | decide | ((repeat' split) <;> first | rfl | (exfalso; omega) | exact z_of (by decide) (by omega))), trivial⟩, hS.F ht9⟩) hS.2.2 dX12_shared_40
          · exact absurd rfl c13
  · skip
    refine lv_if_eq (tgt := 38) hx hb dX12_shared_8 (by decide) (fun c14 => ?_) (fun c14 => ?_)
    · skip
      refine lv_ldc hx hb hown (ht _ m_1373) dX12_shared_38 ?_
      exact W.iret (v := (-100002)) hx hb hr (fun t ht9 hW => ⟨⟨(-100002), (), rfl, (by unfold F_shared; first | decide | ((repeat' split) <;> first | rfl | (exfalso; omega) | exact z_of (by decide) (by omega))), trivial⟩, hS.F ht9⟩) hS.2.2 dX12_shared_40
    · exact absurd rfl c14
set_option maxHeartbeats 4000000 in
set_option maxRecDepth 100000 in
/-- X12_houses -/
theorem c_X12_houses (l : Launch) (dC : Nat → ClassId) (dI : Nat → Nat → Nat) (h : Nat) (g : Nat → Nat → Nat) (ca : Nat → Nat → ClassId) (n : Int32) : Met l yX12_houses (wc yX12_houses cX12_houses 4 (some .int)) ({ frames := 1, cells := 0, slots := 0, locals := 25 } : Room) (pR (dC, dI) classes [(h, .inr (12, (o12 h g)))] [] [.ref h, .int n]) (vp_Si (fun r => r = F_houses n)) 0 0 (fun _ => False) := by
  refine Met.ofW (cc := cX12_houses) (maxL := 4) (ret := (some .int)) (by decide) rfl ?_
  intro p e s m args below meth c s₁ B hml hv
  obtain ⟨rfl, hP, hK⟩ := hv
  have hx := B.exec
  have hb := B.bytes
  have hr := B.returns
  have ht := tb_tl (atoms_spec (ws := wc yX12_houses cX12_houses 4 (some .int)) B.pre)
  have hown : s.vm.findClass RX12 = some m.cls := findClass_of_methodNamed B.named
  have hlocks := B.notSynchronized
  have hl := lv_entry [.ref h, .int n] (n := 4) (Nat.le_of_ble_eq_true rfl)
  rw [lg_entry_eq]
  generalize (lg_sl [.ref h, .int n] ++ List.replicate (4 - (lg_sl [.ref h, .int n]).length) Slot.unset).toArray = ls at hl ⊢
  have hl : lv_has ls 4 [(0, .ref h), (1, .int n)] := hl
  refine lv_iload_n hx hb dX12_houses_0 rfl (lv_at hl 1 rfl) ?_
  refine lv_i2l (v := (n.toInt64)) hx hb dX12_houses_1 rfl ?_
  refine lv_lconst (v := 0) hx hb dX12_houses_2 (by decide) ?_
  refine lv_ldc2 hx hb hown (ht _ m_1390) dX12_houses_3 ?_
  have hPc := hP.sub (ws' := []) [] rfl
  have hKc := hK.sub (tys' := []) [] rfl
  refine vp_callSi (W.runS (As := [.long (n.toInt64), .long 0, .long 2]) (rest := []) ⟨hx, hb, hml, hown, ht⟩ (c_X12_in l dC dI (n.toInt64) 0 2 (n.toInt) (0) (2) ((Int32.toInt_toInt64 n).trans rfl) (by decide : (0 : Int64).toInt = 0) (by decide : (2 : Int64).toInt = 2)) (kS 3 ht m_1370 m_1371 m_89 m_1372 rfl rfl hd_X12_in_v ⟨Nat.le_of_ble_eq_true rfl, Nat.le_of_ble_eq_true rfl⟩) (sR hPc hKc) rfl rfl hl.1 rfl (lv_room (Nat.le_of_ble_eq_true rfl)) dX12_houses_6 ⟨Nat.le_of_ble_eq_true rfl, Nat.le_of_ble_eq_true rfl⟩) (fun r1 hr1 => ?_)
  rcases hr1 with ⟨rfl, fr1⟩ | ⟨rfl, fr1⟩
  · skip
    refine lv_if_ne (tgt := 15) hx hb dX12_houses_9 (by decide) (fun c2 => ?_) (fun c2 => ?_)
    · skip
      refine lv_aload_n hx hb dX12_houses_15 rfl (lv_at hl 0 rfl) ?_
      refine va_get (D := (dC, dI)) (ci := 12) (v := .int 0) (C := RX12) (T := TX12) (N := 75) hx hb ht inX12 hown hK hP 0 rfl rfl 62 (by decide) (ht _ m_1201) (fun _ h9 => h9) rfl dX12_houses_16 ?_
      refine lv_if_ne (tgt := 25) hx hb dX12_houses_19 (by decide) (fun c3 => ?_) (fun c3 => ?_)
      · exact absurd rfl c3
      · skip
        refine lv_ldc hx hb hown (ht _ m_1374) dX12_houses_22 ?_
        exact W.iret (v := (-100003)) hx hb hr (fun t ht9 hW => ⟨(-100003), rfl, (by unfold F_houses; first | decide | ((repeat' split) <;> first | rfl | (exfalso; omega) | exact z_of (by decide) (by omega))), ht9⟩) (fun q hq => by cases hq) dX12_houses_24
    · exact absurd c2 (by decide)
  · skip
    refine lv_if_ne (tgt := 15) hx hb dX12_houses_9 (by decide) (fun c4 => ?_) (fun c4 => ?_)
    · exact absurd rfl c4
    · skip
      refine lv_ldc hx hb hown (ht _ m_1373) dX12_houses_12 ?_
      exact W.iret (v := (-100002)) hx hb hr (fun t ht9 hW => ⟨(-100002), rfl, (by unfold F_houses; first | decide | ((repeat' split) <;> first | rfl | (exfalso; omega) | exact z_of (by decide) (by omega))), ht9⟩) (fun q hq => by cases hq) dX12_houses_14
set_option maxHeartbeats 4000000 in
set_option maxRecDepth 100000 in
/-- X12_stood -/
theorem c_X12_stood (l : Launch) (dC : Nat → ClassId) (dI : Nat → Nat → Nat) (h : Nat) (g : Nat → Nat → Nat) (ca : Nat → Nat → ClassId) (d : Int32) (n : Int32) : Met l yX12_stood (wc yX12_stood cX12_stood 7 (some .long)) ({ frames := 2, cells := 0, slots := 0, locals := 46 } : Room) (pR (dC, dI) classes [(h, .inr (12, (o12 h g)))] [] [.ref h, .int d, .int n]) (vp_Sl (fun r => r = F_stood d n)) 0 0 (fun _ => False) := by
  refine Met.ofW (cc := cX12_stood) (maxL := 7) (ret := (some .long)) (by decide) rfl ?_
  intro p e s m args below meth c s₁ B hml hv
  obtain ⟨rfl, hP, hK⟩ := hv
  have hx := B.exec
  have hb := B.bytes
  have hr := B.returns
  have ht := tb_tl (atoms_spec (ws := wc yX12_stood cX12_stood 7 (some .long)) B.pre)
  have hown : s.vm.findClass RX12 = some m.cls := findClass_of_methodNamed B.named
  have hlocks := B.notSynchronized
  have hl := lv_entry [.ref h, .int d, .int n] (n := 7) (Nat.le_of_ble_eq_true rfl)
  rw [lg_entry_eq]
  generalize (lg_sl [.ref h, .int d, .int n] ++ List.replicate (7 - (lg_sl [.ref h, .int d, .int n]).length) Slot.unset).toArray = ls at hl ⊢
  have hl : lv_has ls 7 [(0, .ref h), (1, .int d), (2, .int n)] := hl
  refine lv_aload_n hx hb dX12_stood_0 rfl (lv_at hl 0 rfl) ?_
  refine lv_iload_n hx hb dX12_stood_1 rfl (lv_at hl 1 rfl) ?_
  have hPc := hP.sub (ws' := [(h, .inr (12, (o12 h g)))]) [0] rfl
  have hKc := hK.sub (tys' := []) [] rfl
  refine vp_callSi (W.runV (As := [.int d]) (rest := []) ⟨hx, hb, hml, hown, ht⟩ (c_X12_isPast l dC dI h g ca d) (kV 1 ht m_1528 m_1530 m_57 m_89 m_1531 rfl rfl hd_X12_isPast_v ⟨Nat.le_of_ble_eq_true rfl, Nat.le_of_ble_eq_true rfl⟩) (vR hPc hKc (va_recv hKc hPc (ci := 12) (q0 := 0) rfl rfl)) rfl rfl hl.1 rfl (lv_room (Nat.le_of_ble_eq_true rfl)) dX12_stood_2 ⟨Nat.le_of_ble_eq_true rfl, Nat.le_of_ble_eq_true rfl⟩) (fun r1 hr1 => ?_)
  rcases hr1 with ⟨rfl, fr1⟩ | ⟨rfl, fr1⟩
  · skip
    refine lv_if_eq (tgt := 18) hx hb dX12_stood_5 (by decide) (fun c2 => ?_) (fun c2 => ?_)
    · exact absurd c2 (by decide)
    · skip
      refine lv_iload_n hx hb dX12_stood_8 rfl (lv_at hl 2 rfl) ?_
      refine lv_i2l (v := (n.toInt64)) hx hb dX12_stood_9 rfl ?_
      refine lv_lconst (v := 0) hx hb dX12_stood_10 (by decide) ?_
      refine lv_lconst (v := 1) hx hb dX12_stood_11 (by decide) ?_
      have hPc := hP.sub (ws' := []) [] rfl
      have hKc := hK.sub (tys' := []) [] rfl
      refine vp_callSi (W.runS (As := [.long (n.toInt64), .long 0, .long 1]) (rest := []) ⟨hx, hb, hml, hown, ht⟩ (c_X12_in l dC dI (n.toInt64) 0 1 (n.toInt) (0) (1) ((Int32.toInt_toInt64 n).trans rfl) (by decide : (0 : Int64).toInt = 0) (by decide : (1 : Int64).toInt = 1)) (kS 3 ht m_1370 m_1371 m_89 m_1372 rfl rfl hd_X12_in_v ⟨Nat.le_of_ble_eq_true rfl, Nat.le_of_ble_eq_true rfl⟩) (sR hPc hKc) rfl rfl hl.1 rfl (lv_room (Nat.le_of_ble_eq_true rfl)) dX12_stood_12 ⟨Nat.le_of_ble_eq_true rfl, Nat.le_of_ble_eq_true rfl⟩) (fun r3 hr3 => ?_)
      rcases hr3 with ⟨rfl, fr3⟩ | ⟨rfl, fr3⟩
      · skip
        refine lv_if_ne (tgt := 22) hx hb dX12_stood_15 (by decide) (fun c4 => ?_) (fun c4 => ?_)
        · skip
          refine lv_lconst (v := 0) hx hb dX12_stood_22 (by decide) ?_
          refine lv_lstore_n (lv' := [(3, .long 0), (0, .ref h), (1, .int d), (2, .int n)]) hx hb dX12_stood_23 rfl hl (by decide) rfl (fun ls hl => ?_)
          refine lv_iconst (v := 0) hx hb dX12_stood_24 (by decide) ?_
          refine lv_istore (lv' := [(5, .int 0), (3, .long 0), (0, .ref h), (1, .int d), (2, .int n)]) hx hb dX12_stood_25 hl (by decide) rfl (fun ls hl => ?_)
          refine lv_iload hx hb dX12_stood_27 (lv_at hl 0 rfl) ?_
          refine lv_aload_n hx hb dX12_stood_29 rfl (lv_at hl 2 rfl) ?_
          refine va_get (D := (dC, dI)) (ci := 12) (v := .int 0) (C := RX12) (T := TX12) (N := 75) hx hb ht inX12 hown hK hP 0 rfl rfl 67 (by decide) (ht _ m_1206) (fun _ h9 => h9) rfl dX12_stood_30 ?_
          refine lv_icmp_ge (tgt := 113) hx hb dX12_stood_33 (by decide) (fun c5 => ?_) (fun c5 => ?_)
          · skip
            refine lv_lload_n hx hb dX12_stood_113 rfl (lv_at hl 1 rfl) ?_
            exact W.lret (v := 0) hx hb hr (fun t ht9 hW => ⟨0, rfl, (by unfold F_stood; first | decide | ((repeat' split) <;> first | rfl | (exfalso; omega) | exact z_of (by decide) (by omega))), ht9⟩) (fun q hq => by cases hq) dX12_stood_114
          · exact absurd c5 (by decide)
        · exact absurd c4 (by decide)
      · skip
        refine lv_if_ne (tgt := 22) hx hb dX12_stood_15 (by decide) (fun c6 => ?_) (fun c6 => ?_)
        · exact absurd rfl c6
        · skip
          refine lv_ldc2 hx hb hown (ht _ m_1561) dX12_stood_18 ?_
          exact W.lret (v := (-100002)) hx hb hr (fun t ht9 hW => ⟨(-100002), rfl, (by unfold F_stood; first | decide | ((repeat' split) <;> first | rfl | (exfalso; omega) | exact z_of (by decide) (by omega))), ht9⟩) (fun q hq => by cases hq) dX12_stood_21
  · skip
    refine lv_if_eq (tgt := 18) hx hb dX12_stood_5 (by decide) (fun c7 => ?_) (fun c7 => ?_)
    · skip
      refine lv_ldc2 hx hb hown (ht _ m_1561) dX12_stood_18 ?_
      exact W.lret (v := (-100002)) hx hb hr (fun t ht9 hW => ⟨(-100002), rfl, (by unfold F_stood; first | decide | ((repeat' split) <;> first | rfl | (exfalso; omega) | exact z_of (by decide) (by omega))), ht9⟩) (fun q hq => by cases hq) dX12_stood_21
    · exact absurd rfl c7
