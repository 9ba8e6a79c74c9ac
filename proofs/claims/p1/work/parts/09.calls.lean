set_option maxHeartbeats 4000000 in
set_option maxRecDepth 100000 in
/-- X11_force -/
theorem c_X11_force (l : Launch) (dC : Nat → ClassId) (dI : Nat → Nat → Nat) (h : Nat) (g : Nat → Nat → Nat) (ca : Nat → Nat → ClassId) (n : Int32) (d : Int32) : Met l yX11_force (wc yX11_force cX11_force 3 (some .int)) ({ frames := 2, cells := 0, slots := 0, locals := 48 } : Room) (va_Pc [.ref h, .int n, .int d] (fun U => va_P (dC, dI) classes [(h, .inr (11, (o11 h g))), ((g 11 3), .inr (1, (o1 h g)))] U.heap ∧ va_K (dC, dI) classes [] U ∧ zAF U)) (vp_Si (fun r => r = F_force n d)) 0 0 (fun _ => False) := by
  refine Met.ofW (cc := cX11_force) (maxL := 3) (ret := (some .int)) (by decide) rfl ?_
  intro p e s m args below meth c s₁ B hml hv
  obtain ⟨rfl, hP, hK, hZ⟩ := hv
  have hx := B.exec
  have hb := B.bytes
  have hr := B.returns
  have ht := tb_tl (atoms_spec (ws := wc yX11_force cX11_force 3 (some .int)) B.pre)
  have hown : s.vm.findClass RX11 = some m.cls := findClass_of_methodNamed B.named
  have hlocks := B.notSynchronized
  have hl := lv_entry [.ref h, .int n, .int d] (n := 3) (Nat.le_of_ble_eq_true rfl)
  rw [lg_entry_eq]
  generalize (lg_sl [.ref h, .int n, .int d] ++ List.replicate (3 - (lg_sl [.ref h, .int n, .int d]).length) Slot.unset).toArray = ls at hl ⊢
  have hl : lv_has ls 3 [(0, .ref h), (1, .int n), (2, .int d)] := hl
  refine lv_iload_n hx hb dX11_force_0 rfl (lv_at hl 1 rfl) ?_
  refine lv_iconst (v := 0) hx hb dX11_force_1 (by decide) ?_
  refine lv_iconst (v := 5) hx hb dX11_force_2 (by decide) ?_
  have hPc := hP.sub (ws' := []) [] rfl
  have hKc := hK.sub (tys' := []) [] rfl
  refine vp_callSi (W.runS (As := [.int n, .int 0, .int 5]) (rest := []) ⟨hx, hb, hml, hown, ht⟩ (c_X11_within l dC dI n 0 5 (n.toInt) (0) (5) (rfl : (n).toInt = _) (by decide : (0 : Int32).toInt = 0) (by decide : (5 : Int32).toInt = 5)) (kS 3 ht m_453 m_454 m_77 m_455 rfl rfl hd_X11_within_v ⟨Nat.le_of_ble_eq_true rfl, Nat.le_of_ble_eq_true rfl⟩) (sR hPc hKc) rfl rfl hl.1 rfl (lv_room (Nat.le_of_ble_eq_true rfl)) dX11_force_3 ⟨Nat.le_of_ble_eq_true rfl, Nat.le_of_ble_eq_true rfl⟩) (fun r1 hr1 => ?_)
  rcases hr1 with ⟨rfl, fr1⟩ | ⟨rfl, fr1⟩
  · skip
    refine lv_if_eq (tgt := 20) hx hb dX11_force_6 (by decide) (fun c2 => ?_) (fun c2 => ?_)
    · exact absurd c2 (by decide)
    · skip
      refine lv_iload_n hx hb dX11_force_9 rfl (lv_at hl 2 rfl) ?_
      refine lv_iconst (v := 0) hx hb dX11_force_10 (by decide) ?_
      refine lv_sipush (v := 3000) hx hb dX11_force_11 (by decide) ?_
      have hPc := hP.sub (ws' := []) [] rfl
      have hKc := hK.sub (tys' := []) [] rfl
      refine vp_callSi (W.runS (As := [.int d, .int 0, .int 3000]) (rest := []) ⟨hx, hb, hml, hown, ht⟩ (c_X11_within l dC dI d 0 3000 (d.toInt) (0) (3000) (rfl : (d).toInt = _) (by decide : (0 : Int32).toInt = 0) (by decide : (3000 : Int32).toInt = 3000)) (kS 3 ht m_453 m_454 m_77 m_455 rfl rfl hd_X11_within_v ⟨Nat.le_of_ble_eq_true rfl, Nat.le_of_ble_eq_true rfl⟩) (sR hPc hKc) rfl rfl hl.1 rfl (lv_room (Nat.le_of_ble_eq_true rfl)) dX11_force_14 ⟨Nat.le_of_ble_eq_true rfl, Nat.le_of_ble_eq_true rfl⟩) (fun r3 hr3 => ?_)
      rcases hr3 with ⟨rfl, fr3⟩ | ⟨rfl, fr3⟩
      · skip
        refine lv_if_ne (tgt := 23) hx hb dX11_force_17 (by decide) (fun c4 => ?_) (fun c4 => ?_)
        · skip
          refine lv_aload_n hx hb dX11_force_23 rfl (lv_at hl 0 rfl) ?_
          refine va_get (D := (dC, dI)) (ci := 11) (v := .ref (g 11 3)) (C := RX11) (T := TX11) (N := 11) hx hb ht inX11 hown hK hP 0 rfl rfl 3 (by decide) (ht _ m_418) (fun _ h9 => h9) rfl dX11_force_24 ?_
          refine lv_iload_n hx hb dX11_force_27 rfl (lv_at hl 1 rfl) ?_
          refine lv_iload_n hx hb dX11_force_28 rfl (lv_at hl 2 rfl) ?_
          have hPc := hP.sub (ws' := [((g 11 3), .inr (1, (o1 h g)))]) [1] rfl
          have hKc := hK.sub (tys' := []) [] rfl
          refine vp_callSi (W.runV (As := [.int n, .int d]) (rest := []) ⟨hx, hb, hml, hown, ht⟩ (c_X1_holding l dC dI h g ca n d (by omega)) (kV 2 ht m_667 m_601 m_602 m_81 m_603 rfl rfl hd_X1_holding_v ⟨Nat.le_of_ble_eq_true rfl, Nat.le_of_ble_eq_true rfl⟩) (vRZ hPc hKc hZ (va_recv hKc hPc (ci := 1) (q0 := 0) rfl rfl)) rfl rfl hl.1 rfl (lv_room (Nat.le_of_ble_eq_true rfl)) dX11_force_29 ⟨Nat.le_of_ble_eq_true rfl, Nat.le_of_ble_eq_true rfl⟩) (fun r5 hr5 => ?_)
          obtain rfl : (F_atF n) = r5 := hr5.symm
          exact W.iret (v := (F_atF n)) hx hb hr (fun t ht9 hW => ⟨(F_atF n), rfl, (by unfold F_force; first | decide | ((repeat' split) <;> first | rfl | (exfalso; omega) | exact z_of (by decide) (by omega))), ht9⟩) (fun q hq => by cases hq) dX11_force_32
        · exact absurd c4 (by decide)
      · skip
        refine lv_if_ne (tgt := 23) hx hb dX11_force_17 (by decide) (fun c6 => ?_) (fun c6 => ?_)
        · exact absurd rfl c6
        · skip
          refine lv_ldc hx hb hown (ht _ m_456) dX11_force_20 ?_
          exact W.iret (v := (-100002)) hx hb hr (fun t ht9 hW => ⟨(-100002), rfl, (by unfold F_force; first | decide | ((repeat' split) <;> first | rfl | (exfalso; omega) | exact z_of (by decide) (by omega))), ht9⟩) (fun q hq => by cases hq) dX11_force_22
  · skip
    refine lv_if_eq (tgt := 20) hx hb dX11_force_6 (by decide) (fun c7 => ?_) (fun c7 => ?_)
    · skip
      refine lv_ldc hx hb hown (ht _ m_456) dX11_force_20 ?_
      exact W.iret (v := (-100002)) hx hb hr (fun t ht9 hW => ⟨(-100002), rfl, (by unfold F_force; first | decide | ((repeat' split) <;> first | rfl | (exfalso; omega) | exact z_of (by decide) (by omega))), ht9⟩) (fun q hq => by cases hq) dX11_force_22
    · exact absurd rfl c7
set_option maxHeartbeats 4000000 in
set_option maxRecDepth 100000 in
/-- X11_load -/
theorem c_X11_load (l : Launch) (dC : Nat → ClassId) (dI : Nat → Nat → Nat) (sz : Nat) (h : Nat) (g : Nat → Nat → Nat) (ca : Nat → Nat → ClassId) (n : Int32) : Met l yX11_load (wc yX11_load cX11_load 2 (some .int)) ({ frames := 1, cells := 0, slots := 0, locals := 22 } : Room) (pW (dC, dI) classes [(h, .inr (11, (o11 h g))), ((g 11 7), .inr (5, (o5 h g))), ((g 5 0), .inl ((ca 5 0), 8, .inl (fun _ => 0)))] [((ca 5 0), .int)] sz [.ref h, .int n]) (va_Qi (fun r (_ : Unit) => r = F_load n) (fun _ _ => True) (va_A [(h, .inr (11, (o11 h g))), ((g 11 7), .inr (5, (o5 h g))), ((g 5 0), .inl ((ca 5 0), 8, .inl (fun _ => 0)))] sz)) 0 0 (va_A [(h, .inr (11, (o11 h g))), ((g 11 7), .inr (5, (o5 h g))), ((g 5 0), .inl ((ca 5 0), 8, .inl (fun _ => 0)))] sz) := by
  refine Met.ofW (cc := cX11_load) (maxL := 2) (ret := (some .int)) (by decide) rfl ?_
  intro p e s m args below meth c s₁ B hml hv
  obtain ⟨rfl, hsz, hP, hK, hD0⟩ := hv
  have hx := B.exec
  have hb := B.bytes
  have hr := B.returns
  have ht := tb_tl (atoms_spec (ws := wc yX11_load cX11_load 2 (some .int)) B.pre)
  have hown : s.vm.findClass RX11 = some m.cls := findClass_of_methodNamed B.named
  have hlocks := B.notSynchronized
  subst hsz
  have hD := hD0.self (sz := s.heap.size)
  generalize hAe : va_A [(h, .inr (11, (o11 h g))), ((g 11 7), .inr (5, (o5 h g))), ((g 5 0), .inl ((ca 5 0), 8, .inl (fun _ => 0)))] s.heap.size = A at hD ⊢
  have hA : ∀ q : Nat, s.heap.size ≤ q → A q := fun q h => by rw [← hAe]; exact Or.inr h
  have hS : va_S A s.heap s.heap [] := va_S.rf
  have hP : va_P (dC, dI) classes [(h, .inr (11, (o11 h g))), ((g 11 7), .inr (5, (o5 h g))), ((g 5 0), .inl ((ca 5 0), 8, .inl (fun _ => 0)))] s.heap := hP
  have hl := lv_entry [.ref h, .int n] (n := 2) (Nat.le_of_ble_eq_true rfl)
  rw [lg_entry_eq]
  generalize (lg_sl [.ref h, .int n] ++ List.replicate (2 - (lg_sl [.ref h, .int n]).length) Slot.unset).toArray = ls at hl ⊢
  have hl : lv_has ls 2 [(0, .ref h), (1, .int n)] := hl
  refine lv_iload_n hx hb dX11_load_0 rfl (lv_at hl 1 rfl) ?_
  refine lv_iconst (v := 1) hx hb dX11_load_1 (by decide) ?_
  refine lv_sipush (v := 999) hx hb dX11_load_2 (by decide) ?_
  have hPc := hP.sub (ws' := []) [] rfl
  have hKc := hK.sub (tys' := []) [] rfl
  refine vp_callSi (W.runS (As := [.int n, .int 1, .int 999]) (rest := []) ⟨hx, hb, hml, hown, ht⟩ (c_X11_within l dC dI n 1 999 (n.toInt) (1) (999) (rfl : (n).toInt = _) (by decide : (1 : Int32).toInt = 1) (by decide : (999 : Int32).toInt = 999)) (kS 3 ht m_453 m_454 m_77 m_455 rfl rfl hd_X11_within_v ⟨Nat.le_of_ble_eq_true rfl, Nat.le_of_ble_eq_true rfl⟩) (sR hPc hKc) rfl rfl hl.1 rfl (lv_room (Nat.le_of_ble_eq_true rfl)) dX11_load_5 ⟨Nat.le_of_ble_eq_true rfl, Nat.le_of_ble_eq_true rfl⟩) (fun r1 hr1 => ?_)
  rcases hr1 with ⟨rfl, fr1⟩ | ⟨rfl, fr1⟩
  · skip
    refine lv_if_ne (tgt := 14) hx hb dX11_load_8 (by decide) (fun c2 => ?_) (fun c2 => ?_)
    · skip
      refine lv_aload_n hx hb dX11_load_14 rfl (lv_at hl 0 rfl) ?_
      refine va_get (D := (dC, dI)) (ci := 11) (v := .ref (g 11 7)) (C := RX11) (T := TX11) (N := 11) hx hb ht inX11 hown hK hP 0 rfl rfl 7 (by decide) (ht _ m_422) (fun _ h9 => h9) rfl dX11_load_15 ?_
      refine va_get (D := (dC, dI)) (ci := 5) (v := .int 0) (C := RX5) (T := TX5) (N := 7) hx hb ht inX5 hown hK hP 1 rfl rfl 4 (by decide) (ht _ m_341) (fun _ h9 => h9) rfl dX11_load_18 ?_
      refine lv_bipush (v := 8) hx hb dX11_load_21 (by decide) ?_
      refine lv_icmp_lt (tgt := 31) hx hb dX11_load_23 (by decide) (fun c3 => ?_) (fun c3 => ?_)
      · skip
        refine lv_aload_n hx hb dX11_load_31 rfl (lv_at hl 0 rfl) ?_
        refine va_get (D := (dC, dI)) (ci := 11) (v := .ref (g 11 7)) (C := RX11) (T := TX11) (N := 11) hx hb ht inX11 hown hK hP 0 rfl rfl 7 (by decide) (ht _ m_422) (fun _ h9 => h9) rfl dX11_load_32 ?_
        refine lv_iload_n hx hb dX11_load_35 rfl (lv_at hl 1 rfl) ?_
        have hPc := hP.sub (ws' := [((g 11 7), .inr (5, (o5 h g))), ((g 5 0), .inl ((ca 5 0), 8, .inl (fun _ => 0)))]) [1, 2] rfl
        have hKc := hK.sub (tys' := [((ca 5 0), .int)]) [0] rfl
        have hDc := hD.sub (ws' := [((g 11 7), .inr (5, (o5 h g))), ((g 5 0), .inl ((ca 5 0), 8, .inl (fun _ => 0)))]) [1, 2] (by decide) rfl
        have hFc := va_free (wc := [((g 11 7), .inr (5, (o5 h g))), ((g 5 0), .inl ((ca 5 0), 8, .inl (fun _ => 0)))]) hD hS hA [1, 2] rfl
        refine va_calli (va_runV (As := [.int n]) (rest := []) ⟨hx, hb, hml, hown, ht⟩ (c_X5_bring l dC dI s.heap.size h g ca n) (kV 1 ht m_1005 m_1006 m_1007 m_86 m_1008 rfl rfl hd_X5_bring_v ⟨Nat.le_of_ble_eq_true rfl, Nat.le_of_ble_eq_true rfl⟩) (vW hPc hKc hDc (va_recv hKc hPc (ci := 5) (q0 := 0) rfl rfl)) rfl rfl hl.1 rfl (lv_room (Nat.le_of_ble_eq_true rfl)) dX11_load_36 ⟨Nat.le_of_ble_eq_true rfl, Nat.le_of_ble_eq_true rfl⟩) hS (fun q _ h => hFc q h) hFc (fun r4 u t H1 locs ht9 hvm hr4 hB hz1 hk1 hS => ?_)
        have hP1 : va_P (dC, dI) classes [] H1 := noP
        have hD1 : va_D (va_A [((g 11 7), .inr (5, (o5 h g))), ((g 5 0), .inl ((ca 5 0), 8, .inl (fun _ => 0)))] s.heap.size) [] := noD
        obtain ⟨hP, hD⟩ := va_join (wr := [(h, .inr (11, (o11 h g)))]) (w1 := []) hP hD [1, 2] [0] rfl rfl (by decide) (by decide) hk1 hFc hP1 hD1
        generalize H1 = H at hP hS ⊢
        have hP : va_P (dC, dI) classes [(h, .inr (11, (o11 h g)))] H := hP
        have hD : va_D A [(h, .inr (11, (o11 h g)))] := hD
        obtain rfl : 1 = r4 := hr4.symm
        exact W.iret (v := 1) hx hb hr (fun t ht9 hW => ⟨⟨1, (), rfl, (by unfold F_load; first | decide | ((repeat' split) <;> first | rfl | (exfalso; omega) | exact z_of (by decide) (by omega))), trivial⟩, hS.F ht9⟩) hS.2.2 dX11_load_39
      · exact absurd c3 (by decide)
    · exact absurd c2 (by decide)
  · skip
    refine lv_if_ne (tgt := 14) hx hb dX11_load_8 (by decide) (fun c5 => ?_) (fun c5 => ?_)
    · exact absurd rfl c5
    · skip
      refine lv_ldc hx hb hown (ht _ m_456) dX11_load_11 ?_
      exact W.iret (v := (-100002)) hx hb hr (fun t ht9 hW => ⟨⟨(-100002), (), rfl, (by unfold F_load; first | decide | ((repeat' split) <;> first | rfl | (exfalso; omega) | exact z_of (by decide) (by omega))), trivial⟩, hS.F ht9⟩) hS.2.2 dX11_load_13
set_option maxHeartbeats 4000000 in
set_option maxRecDepth 100000 in
/-- X11_order -/
theorem c_X11_order (l : Launch) (dC : Nat → ClassId) (dI : Nat → Nat → Nat) (sz : Nat) (h : Nat) (g : Nat → Nat → Nat) (ca : Nat → Nat → ClassId) (n : Int32) (i : Int32) : Met l yX11_order (wc yX11_order cX11_order 3 (some .int)) ({ frames := 3, cells := 0, slots := 0, locals := 105 } : Room) (pW (dC, dI) classes [(h, .inr (11, (o11 h g))), ((g 11 7), .inr (5, (o5 h g))), ((g 5 1), .inl ((ca 5 1), 8, .inl (fun _ => 0))), ((g 5 3), .inl ((ca 5 3), 8, .inl (fun _ => 0)))] [((ca 5 1), .int), ((ca 5 3), .int)] sz [.ref h, .int n, .int i]) (va_Qi (fun r (_ : Unit) => r = F_order n i) (fun _ _ => True) (va_A [(h, .inr (11, (o11 h g))), ((g 11 7), .inr (5, (o5 h g))), ((g 5 1), .inl ((ca 5 1), 8, .inl (fun _ => 0))), ((g 5 3), .inl ((ca 5 3), 8, .inl (fun _ => 0)))] sz)) 0 0 (va_A [(h, .inr (11, (o11 h g))), ((g 11 7), .inr (5, (o5 h g))), ((g 5 1), .inl ((ca 5 1), 8, .inl (fun _ => 0))), ((g 5 3), .inl ((ca 5 3), 8, .inl (fun _ => 0)))] sz) := by
  refine Met.ofW (cc := cX11_order) (maxL := 3) (ret := (some .int)) (by decide) rfl ?_
  intro p e s m args below meth c s₁ B hml hv
  obtain ⟨rfl, hsz, hP, hK, hD0⟩ := hv
  have hx := B.exec
  have hb := B.bytes
  have hr := B.returns
  have ht := tb_tl (atoms_spec (ws := wc yX11_order cX11_order 3 (some .int)) B.pre)
  have hown : s.vm.findClass RX11 = some m.cls := findClass_of_methodNamed B.named
  have hlocks := B.notSynchronized
  subst hsz
  have hD := hD0.self (sz := s.heap.size)
  generalize hAe : va_A [(h, .inr (11, (o11 h g))), ((g 11 7), .inr (5, (o5 h g))), ((g 5 1), .inl ((ca 5 1), 8, .inl (fun _ => 0))), ((g 5 3), .inl ((ca 5 3), 8, .inl (fun _ => 0)))] s.heap.size = A at hD ⊢
  have hA : ∀ q : Nat, s.heap.size ≤ q → A q := fun q h => by rw [← hAe]; exact Or.inr h
  have hS : va_S A s.heap s.heap [] := va_S.rf
  have hP : va_P (dC, dI) classes [(h, .inr (11, (o11 h g))), ((g 11 7), .inr (5, (o5 h g))), ((g 5 1), .inl ((ca 5 1), 8, .inl (fun _ => 0))), ((g 5 3), .inl ((ca 5 3), 8, .inl (fun _ => 0)))] s.heap := hP
  have hl := lv_entry [.ref h, .int n, .int i] (n := 3) (Nat.le_of_ble_eq_true rfl)
  rw [lg_entry_eq]
  generalize (lg_sl [.ref h, .int n, .int i] ++ List.replicate (3 - (lg_sl [.ref h, .int n, .int i]).length) Slot.unset).toArray = ls at hl ⊢
  have hl : lv_has ls 3 [(0, .ref h), (1, .int n), (2, .int i)] := hl
  refine lv_iload_n hx hb dX11_order_0 rfl (lv_at hl 1 rfl) ?_
  refine lv_iconst (v := 1) hx hb dX11_order_1 (by decide) ?_
  refine lv_iconst (v := 3) hx hb dX11_order_2 (by decide) ?_
  have hPc := hP.sub (ws' := []) [] rfl
  have hKc := hK.sub (tys' := []) [] rfl
  refine vp_callSi (W.runS (As := [.int n, .int 1, .int 3]) (rest := []) ⟨hx, hb, hml, hown, ht⟩ (c_X11_within l dC dI n 1 3 (n.toInt) (1) (3) (rfl : (n).toInt = _) (by decide : (1 : Int32).toInt = 1) (by decide : (3 : Int32).toInt = 3)) (kS 3 ht m_453 m_454 m_77 m_455 rfl rfl hd_X11_within_v ⟨Nat.le_of_ble_eq_true rfl, Nat.le_of_ble_eq_true rfl⟩) (sR hPc hKc) rfl rfl hl.1 rfl (lv_room (Nat.le_of_ble_eq_true rfl)) dX11_order_3 ⟨Nat.le_of_ble_eq_true rfl, Nat.le_of_ble_eq_true rfl⟩) (fun r1 hr1 => ?_)
  rcases hr1 with ⟨rfl, fr1⟩ | ⟨rfl, fr1⟩
  · skip
    refine lv_if_ne (tgt := 12) hx hb dX11_order_6 (by decide) (fun c2 => ?_) (fun c2 => ?_)
    · skip
      refine lv_aload_n hx hb dX11_order_12 rfl (lv_at hl 0 rfl) ?_
      refine va_get (D := (dC, dI)) (ci := 11) (v := .ref (g 11 7)) (C := RX11) (T := TX11) (N := 11) hx hb ht inX11 hown hK hP 0 rfl rfl 7 (by decide) (ht _ m_422) (fun _ h9 => h9) rfl dX11_order_13 ?_
      refine lv_iload_n hx hb dX11_order_16 rfl (lv_at hl 1 rfl) ?_
      have hPc := hP.sub (ws' := [((g 11 7), .inr (5, (o5 h g))), ((g 5 1), .inl ((ca 5 1), 8, .inl (fun _ => 0))), ((g 5 3), .inl ((ca 5 3), 8, .inl (fun _ => 0)))]) [1, 2, 3] rfl
      have hKc := hK.sub (tys' := [((ca 5 1), .int), ((ca 5 3), .int)]) [0, 1] rfl
      have hDc := hD.sub (ws' := [((g 11 7), .inr (5, (o5 h g))), ((g 5 1), .inl ((ca 5 1), 8, .inl (fun _ => 0))), ((g 5 3), .inl ((ca 5 3), 8, .inl (fun _ => 0)))]) [1, 2, 3] (by decide) rfl
      have hFc := va_free (wc := [((g 11 7), .inr (5, (o5 h g))), ((g 5 1), .inl ((ca 5 1), 8, .inl (fun _ => 0))), ((g 5 3), .inl ((ca 5 3), 8, .inl (fun _ => 0)))]) hD hS hA [1, 2, 3] rfl
      refine va_callv (va_runV (As := [.int n]) (rest := []) ⟨hx, hb, hml, hown, ht⟩ (c_X5_arrange l dC dI s.heap.size h g ca n (by omega)) (kV 1 ht m_1013 m_1014 m_1015 m_86 m_1016 rfl rfl hd_X5_arrange_v ⟨Nat.le_of_ble_eq_true rfl, Nat.le_of_ble_eq_true rfl⟩) (vW hPc hKc hDc (va_recv hKc hPc (ci := 5) (q0 := 0) rfl rfl)) rfl rfl hl.1 rfl (lv_room (Nat.le_of_ble_eq_true rfl)) dX11_order_17 ⟨Nat.le_of_ble_eq_true rfl, Nat.le_of_ble_eq_true rfl⟩) hS (fun q _ h => hFc q h) hFc (fun u t H1 locs ht9 hvm hw hB hz1 hk1 hS => ?_)
      obtain ⟨hP1, hD1⟩ := hB
      rw [ht9] at hP1
      obtain ⟨hP, hD⟩ := va_join (wr := [(h, .inr (11, (o11 h g)))]) (w1 := [((g 11 7), .inr (5, ((o5 h g).set 6 (.int n))))]) hP hD [1, 2, 3] [0] rfl rfl (by decide) (by decide) hk1 hFc hP1 hD1
      generalize H1 = H at hP hS ⊢
      have hP : va_P (dC, dI) classes [(h, .inr (11, (o11 h g))), ((g 11 7), .inr (5, ((o5 h g).set 6 (.int n))))] H := hP
      have hD : va_D A [(h, .inr (11, (o11 h g))), ((g 11 7), .inr (5, ((o5 h g).set 6 (.int n))))] := hD
      refine lv_iload_n hx hb dX11_order_20 rfl (lv_at hl 2 rfl) ?_
      refine lv_iconst (v := (-1)) hx hb dX11_order_21 (by decide) ?_
      refine lv_icmp_ne (tgt := 33) hx hb dX11_order_22 (by decide) (fun c4 => ?_) (fun c4 => ?_)
      · have fc4 := z_ne (rfl : (i).toInt = _) (by decide : ((-1) : Int32).toInt = (-1)) c4
        refine lv_iload_n hx hb dX11_order_33 rfl (lv_at hl 2 rfl) ?_
        refine lv_iconst (v := 0) hx hb dX11_order_34 (by decide) ?_
        refine lv_aload_n hx hb dX11_order_35 rfl (lv_at hl 0 rfl) ?_
        refine va_get (D := (dC, dI)) (ci := 11) (v := .ref (g 11 7)) (C := RX11) (T := TX11) (N := 11) hx hb ht inX11 hown hK hP 0 rfl rfl 7 (by decide) (ht _ m_422) (fun _ h9 => h9) rfl dX11_order_36 ?_
        refine va_get (D := (dC, dI)) (ci := 5) (v := .int 0) (C := RX5) (T := TX5) (N := 7) hx hb ht inX5 hown hK hP 1 rfl rfl 4 (by decide) (ht _ m_341) (fun _ h9 => h9) rfl dX11_order_39 ?_
        refine lv_iconst (v := 1) hx hb dX11_order_42 (by decide) ?_
        refine lv_isub hx hb dX11_order_43 ?_
        refine lv_topi (fun v5 ev5 => ?_)
        obtain rfl : (-1) = v5 := (ev5.trans (by decide)).symm
        have hPc := hP.sub (ws' := []) [] rfl
        have hKc := hK.sub (tys' := []) [] rfl
        refine vp_callSi (W.runS (As := [.int i, .int 0, .int (-1)]) (rest := []) ⟨hx, hb, hml, hown, ht⟩ (c_X11_within l dC dI i 0 (-1) (i.toInt) (0) ((-1)) (rfl : (i).toInt = _) (by decide : (0 : Int32).toInt = 0) (by decide : ((-1) : Int32).toInt = (-1))) (kS 3 ht m_453 m_454 m_77 m_455 rfl rfl hd_X11_within_v ⟨Nat.le_of_ble_eq_true rfl, Nat.le_of_ble_eq_true rfl⟩) (sR hPc hKc) rfl rfl hl.1 rfl (lv_room (Nat.le_of_ble_eq_true rfl)) dX11_order_44 ⟨Nat.le_of_ble_eq_true rfl, Nat.le_of_ble_eq_true rfl⟩) (fun r6 hr6 => ?_)
        rcases hr6 with ⟨rfl, fr6⟩ | ⟨rfl, fr6⟩
        · exfalso; omega
        · skip
          refine lv_if_eq (tgt := 62) hx hb dX11_order_47 (by decide) (fun c7 => ?_) (fun c7 => ?_)
          · skip
            refine lv_iconst (v := (-1)) hx hb dX11_order_62 (by decide) ?_
            exact W.iret (v := (-1)) hx hb hr (fun t ht9 hW => ⟨⟨(-1), (), rfl, (by unfold F_order; first | decide | ((repeat' split) <;> first | rfl | (exfalso; omega) | exact z_of (by decide) (by omega))), trivial⟩, hS.F ht9⟩) hS.2.2 dX11_order_63
          · exact absurd rfl c7
      · have fc4 := z_eq (rfl : (i).toInt = _) (by decide : ((-1) : Int32).toInt = (-1)) c4
        refine lv_aload_n hx hb dX11_order_25 rfl (lv_at hl 0 rfl) ?_
        refine va_get (D := (dC, dI)) (ci := 11) (v := .ref (g 11 7)) (C := RX11) (T := TX11) (N := 11) hx hb ht inX11 hown hK hP 0 rfl rfl 7 (by decide) (ht _ m_422) (fun _ h9 => h9) rfl dX11_order_26 ?_
        refine va_get (D := (dC, dI)) (ci := 5) (v := .int 0) (C := RX5) (T := TX5) (N := 7) hx hb ht inX5 hown hK hP 1 rfl rfl 5 (by decide) (ht _ m_343) (fun _ h9 => h9) rfl dX11_order_29 ?_
        exact W.iret (v := 0) hx hb hr (fun t ht9 hW => ⟨⟨0, (), rfl, (by unfold F_order; first | decide | ((repeat' split) <;> first | rfl | (exfalso; omega) | exact z_of (by decide) (by omega))), trivial⟩, hS.F ht9⟩) hS.2.2 dX11_order_32
    · exact absurd c2 (by decide)
  · skip
    refine lv_if_ne (tgt := 12) hx hb dX11_order_6 (by decide) (fun c8 => ?_) (fun c8 => ?_)
    · exact absurd rfl c8
    · skip
      refine lv_ldc hx hb hown (ht _ m_456) dX11_order_9 ?_
      exact W.iret (v := (-100002)) hx hb hr (fun t ht9 hW => ⟨⟨(-100002), (), rfl, (by unfold F_order; first | decide | ((repeat' split) <;> first | rfl | (exfalso; omega) | exact z_of (by decide) (by omega))), trivial⟩, hS.F ht9⟩) hS.2.2 dX11_order_11
set_option maxHeartbeats 4000000 in
set_option maxRecDepth 100000 in
/-- X11_empty -/
theorem c_X11_empty (l : Launch) (dC : Nat → ClassId) (dI : Nat → Nat → Nat) (sz : Nat) (h : Nat) (g : Nat → Nat → Nat) (ca : Nat → Nat → ClassId) : Met l yX11_empty (wc yX11_empty cX11_empty 1 (some .int)) ({ frames := 1, cells := 0, slots := 0, locals := 21 } : Room) (pW (dC, dI) classes [(h, .inr (11, (o11 h g))), ((g 11 7), .inr (5, (o5 h g)))] [] sz [.ref h]) (va_Qi (fun r (_ : Unit) => r = 0) (fun _ _ => True) (va_A [(h, .inr (11, (o11 h g))), ((g 11 7), .inr (5, (o5 h g)))] sz)) 0 0 (va_A [(h, .inr (11, (o11 h g))), ((g 11 7), .inr (5, (o5 h g)))] sz) := by
  refine Met.ofW (cc := cX11_empty) (maxL := 1) (ret := (some .int)) (by decide) rfl ?_
  intro p e s m args below meth c s₁ B hml hv
  obtain ⟨rfl, hsz, hP, hK, hD0⟩ := hv
  have hx := B.exec
  have hb := B.bytes
  have hr := B.returns
  have ht := tb_tl (atoms_spec (ws := wc yX11_empty cX11_empty 1 (some .int)) B.pre)
  have hown : s.vm.findClass RX11 = some m.cls := findClass_of_methodNamed B.named
  have hlocks := B.notSynchronized
  subst hsz
  have hD := hD0.self (sz := s.heap.size)
  generalize hAe : va_A [(h, .inr (11, (o11 h g))), ((g 11 7), .inr (5, (o5 h g)))] s.heap.size = A at hD ⊢
  have hA : ∀ q : Nat, s.heap.size ≤ q → A q := fun q h => by rw [← hAe]; exact Or.inr h
  have hS : va_S A s.heap s.heap [] := va_S.rf
  have hP : va_P (dC, dI) classes [(h, .inr (11, (o11 h g))), ((g 11 7), .inr (5, (o5 h g)))] s.heap := hP
  have hl := lv_entry [.ref h] (n := 1) (Nat.le_of_ble_eq_true rfl)
  rw [lg_entry_eq]
  generalize (lg_sl [.ref h] ++ List.replicate (1 - (lg_sl [.ref h]).length) Slot.unset).toArray = ls at hl ⊢
  have hl : lv_has ls 1 [(0, .ref h)] := hl
  refine lv_aload_n hx hb dX11_empty_0 rfl (lv_at hl 0 rfl) ?_
  refine va_get (D := (dC, dI)) (ci := 11) (v := .ref (g 11 7)) (C := RX11) (T := TX11) (N := 11) hx hb ht inX11 hown hK hP 0 rfl rfl 7 (by decide) (ht _ m_422) (fun _ h9 => h9) rfl dX11_empty_1 ?_
  have hPc := hP.sub (ws' := [((g 11 7), .inr (5, (o5 h g)))]) [1] rfl
  have hKc := hK.sub (tys' := []) [] rfl
  have hDc := hD.sub (ws' := [((g 11 7), .inr (5, (o5 h g)))]) [1] (by decide) rfl
  have hFc := va_free (wc := [((g 11 7), .inr (5, (o5 h g)))]) hD hS hA [1] rfl
  refine va_calli (va_runV (As := []) (rest := []) ⟨hx, hb, hml, hown, ht⟩ (c_X5_clear l dC dI s.heap.size h g ca) (kV 0 ht m_1030 m_1031 m_1032 m_86 m_1033 rfl rfl hd_X5_clear_v ⟨Nat.le_of_ble_eq_true rfl, Nat.le_of_ble_eq_true rfl⟩) (vW hPc hKc hDc (va_recv hKc hPc (ci := 5) (q0 := 0) rfl rfl)) rfl rfl hl.1 rfl (lv_room (Nat.le_of_ble_eq_true rfl)) dX11_empty_4 ⟨Nat.le_of_ble_eq_true rfl, Nat.le_of_ble_eq_true rfl⟩) hS (fun q _ h => hFc q h) hFc (fun r1 u t H1 locs ht9 hvm hr1 hB hz1 hk1 hS => ?_)
  have hP1 : va_P (dC, dI) classes [] H1 := noP
  have hD1 : va_D (va_A [((g 11 7), .inr (5, (o5 h g)))] s.heap.size) [] := noD
  obtain ⟨hP, hD⟩ := va_join (wr := [(h, .inr (11, (o11 h g)))]) (w1 := []) hP hD [1] [0] rfl rfl (by decide) (by decide) hk1 hFc hP1 hD1
  generalize H1 = H at hP hS ⊢
  have hP : va_P (dC, dI) classes [(h, .inr (11, (o11 h g)))] H := hP
  have hD : va_D A [(h, .inr (11, (o11 h g)))] := hD
  obtain rfl : 0 = r1 := hr1.symm
  exact W.iret (v := 0) hx hb hr (fun t ht9 hW => ⟨⟨0, (), rfl, rfl, trivial⟩, hS.F ht9⟩) hS.2.2 dX11_empty_7
set_option maxHeartbeats 4000000 in
set_option maxRecDepth 100000 in
/-- X11_shared -/
theorem c_X11_shared (l : Launch) (dC : Nat → ClassId) (dI : Nat → Nat → Nat) (sz : Nat) (h : Nat) (g : Nat → Nat → Nat) (ca : Nat → Nat → ClassId) (a : Int32) (b : Int32) (d : Int32) (k : Int32) : Met l yX11_shared (wc yX11_shared cX11_shared 5 (some .int)) ({ frames := 1, cells := 0, slots := 0, locals := 22 } : Room) (pW (dC, dI) classes [(h, .inr (11, (o11 h g))), ((g 11 8), .inr (4, (o4 h g))), ((g 4 0), .inl ((ca 4 0), 8, .inl (fun _ => 0))), ((g 4 1), .inl ((ca 4 1), 8, .inl (fun _ => 0)))] [((ca 4 0), .int), ((ca 4 1), .int)] sz [.ref h, .int a, .int b, .int d, .int k]) (va_Qi (fun r (_ : Unit) => r = F_shared a b d k) (fun _ _ => True) (va_A [(h, .inr (11, (o11 h g))), ((g 11 8), .inr (4, (o4 h g))), ((g 4 0), .inl ((ca 4 0), 8, .inl (fun _ => 0))), ((g 4 1), .inl ((ca 4 1), 8, .inl (fun _ => 0)))] sz)) 0 0 (va_A [(h, .inr (11, (o11 h g))), ((g 11 8), .inr (4, (o4 h g))), ((g 4 0), .inl ((ca 4 0), 8, .inl (fun _ => 0))), ((g 4 1), .inl ((ca 4 1), 8, .inl (fun _ => 0)))] sz) := by
  refine Met.ofW (cc := cX11_shared) (maxL := 5) (ret := (some .int)) (by decide) rfl ?_
  intro p e s m args below meth c s₁ B hml hv
  obtain ⟨rfl, hsz, hP, hK, hD0⟩ := hv
  have hx := B.exec
  have hb := B.bytes
  have hr := B.returns
  have ht := tb_tl (atoms_spec (ws := wc yX11_shared cX11_shared 5 (some .int)) B.pre)
  have hown : s.vm.findClass RX11 = some m.cls := findClass_of_methodNamed B.named
  have hlocks := B.notSynchronized
  subst hsz
  have hD := hD0.self (sz := s.heap.size)
  generalize hAe : va_A [(h, .inr (11, (o11 h g))), ((g 11 8), .inr (4, (o4 h g))), ((g 4 0), .inl ((ca 4 0), 8, .inl (fun _ => 0))), ((g 4 1), .inl ((ca 4 1), 8, .inl (fun _ => 0)))] s.heap.size = A at hD ⊢
  have hA : ∀ q : Nat, s.heap.size ≤ q → A q := fun q h => by rw [← hAe]; exact Or.inr h
  have hS : va_S A s.heap s.heap [] := va_S.rf
  have hP : va_P (dC, dI) classes [(h, .inr (11, (o11 h g))), ((g 11 8), .inr (4, (o4 h g))), ((g 4 0), .inl ((ca 4 0), 8, .inl (fun _ => 0))), ((g 4 1), .inl ((ca 4 1), 8, .inl (fun _ => 0)))] s.heap := hP
  have hl := lv_entry [.ref h, .int a, .int b, .int d, .int k] (n := 5) (Nat.le_of_ble_eq_true rfl)
  rw [lg_entry_eq]
  generalize (lg_sl [.ref h, .int a, .int b, .int d, .int k] ++ List.replicate (5 - (lg_sl [.ref h, .int a, .int b, .int d, .int k]).length) Slot.unset).toArray = ls at hl ⊢
  have hl : lv_has ls 5 [(0, .ref h), (1, .int a), (2, .int b), (3, .int d), (4, .int k)] := hl
  refine lv_iload_n hx hb dX11_shared_0 rfl (lv_at hl 1 rfl) ?_
  refine lv_iconst (v := 1) hx hb dX11_shared_1 (by decide) ?_
  refine lv_sipush (v := 9999) hx hb dX11_shared_2 (by decide) ?_
  have hPc := hP.sub (ws' := []) [] rfl
  have hKc := hK.sub (tys' := []) [] rfl
  refine vp_callSi (W.runS (As := [.int a, .int 1, .int 9999]) (rest := []) ⟨hx, hb, hml, hown, ht⟩ (c_X11_within l dC dI a 1 9999 (a.toInt) (1) (9999) (rfl : (a).toInt = _) (by decide : (1 : Int32).toInt = 1) (by decide : (9999 : Int32).toInt = 9999)) (kS 3 ht m_453 m_454 m_77 m_455 rfl rfl hd_X11_within_v ⟨Nat.le_of_ble_eq_true rfl, Nat.le_of_ble_eq_true rfl⟩) (sR hPc hKc) rfl rfl hl.1 rfl (lv_room (Nat.le_of_ble_eq_true rfl)) dX11_shared_5 ⟨Nat.le_of_ble_eq_true rfl, Nat.le_of_ble_eq_true rfl⟩) (fun r1 hr1 => ?_)
  rcases hr1 with ⟨rfl, fr1⟩ | ⟨rfl, fr1⟩
  · skip
    refine lv_if_eq (tgt := 22) hx hb dX11_shared_8 (by decide) (fun c2 => ?_) (fun c2 => ?_)
    · exact absurd c2 (by decide)
    · skip
      refine lv_iload_n hx hb dX11_shared_11 rfl (lv_at hl 2 rfl) ?_
      refine lv_iload_n hx hb dX11_shared_12 rfl (lv_at hl 1 rfl) ?_
      refine lv_sipush (v := 9999) hx hb dX11_shared_13 (by decide) ?_
      have hPc := hP.sub (ws' := []) [] rfl
      have hKc := hK.sub (tys' := []) [] rfl
      refine vp_callSi (W.runS (As := [.int b, .int a, .int 9999]) (rest := []) ⟨hx, hb, hml, hown, ht⟩ (c_X11_within l dC dI b a 9999 (b.toInt) (a.toInt) (9999) (rfl : (b).toInt = _) (rfl : (a).toInt = _) (by decide : (9999 : Int32).toInt = 9999)) (kS 3 ht m_453 m_454 m_77 m_455 rfl rfl hd_X11_within_v ⟨Nat.le_of_ble_eq_true rfl, Nat.le_of_ble_eq_true rfl⟩) (sR hPc hKc) rfl rfl hl.1 rfl (lv_room (Nat.le_of_ble_eq_true rfl)) dX11_shared_16 ⟨Nat.le_of_ble_eq_true rfl, Nat.le_of_ble_eq_true rfl⟩) (fun r3 hr3 => ?_)
      rcases hr3 with ⟨rfl, fr3⟩ | ⟨rfl, fr3⟩
      · skip
        refine lv_if_ne (tgt := 25) hx hb dX11_shared_19 (by decide) (fun c4 => ?_) (fun c4 => ?_)
        · skip
          refine lv_iload_n hx hb dX11_shared_25 rfl (lv_at hl 3 rfl) ?_
          refine lv_iconst (v := 1) hx hb dX11_shared_26 (by decide) ?_
          refine lv_sipush (v := 9999) hx hb dX11_shared_27 (by decide) ?_
          have hPc := hP.sub (ws' := []) [] rfl
          have hKc := hK.sub (tys' := []) [] rfl
          refine vp_callSi (W.runS (As := [.int d, .int 1, .int 9999]) (rest := []) ⟨hx, hb, hml, hown, ht⟩ (c_X11_within l dC dI d 1 9999 (d.toInt) (1) (9999) (rfl : (d).toInt = _) (by decide : (1 : Int32).toInt = 1) (by decide : (9999 : Int32).toInt = 9999)) (kS 3 ht m_453 m_454 m_77 m_455 rfl rfl hd_X11_within_v ⟨Nat.le_of_ble_eq_true rfl, Nat.le_of_ble_eq_true rfl⟩) (sR hPc hKc) rfl rfl hl.1 rfl (lv_room (Nat.le_of_ble_eq_true rfl)) dX11_shared_30 ⟨Nat.le_of_ble_eq_true rfl, Nat.le_of_ble_eq_true rfl⟩) (fun r5 hr5 => ?_)
          rcases hr5 with ⟨rfl, fr5⟩ | ⟨rfl, fr5⟩
          · skip
            refine lv_if_eq (tgt := 48) hx hb dX11_shared_33 (by decide) (fun c6 => ?_) (fun c6 => ?_)
            · exact absurd c6 (by decide)
            · skip
              refine lv_iload hx hb dX11_shared_36 (lv_at hl 4 rfl) ?_
              refine lv_iload_n hx hb dX11_shared_38 rfl (lv_at hl 3 rfl) ?_
              refine lv_sipush (v := 9999) hx hb dX11_shared_39 (by decide) ?_
              have hPc := hP.sub (ws' := []) [] rfl
              have hKc := hK.sub (tys' := []) [] rfl
              refine vp_callSi (W.runS (As := [.int k, .int d, .int 9999]) (rest := []) ⟨hx, hb, hml, hown, ht⟩ (c_X11_within l dC dI k d 9999 (k.toInt) (d.toInt) (9999) (rfl : (k).toInt = _) (rfl : (d).toInt = _) (by decide : (9999 : Int32).toInt = 9999)) (kS 3 ht m_453 m_454 m_77 m_455 rfl rfl hd_X11_within_v ⟨Nat.le_of_ble_eq_true rfl, Nat.le_of_ble_eq_true rfl⟩) (sR hPc hKc) rfl rfl hl.1 rfl (lv_room (Nat.le_of_ble_eq_true rfl)) dX11_shared_42 ⟨Nat.le_of_ble_eq_true rfl, Nat.le_of_ble_eq_true rfl⟩) (fun r7 hr7 => ?_)
              rcases hr7 with ⟨rfl, fr7⟩ | ⟨rfl, fr7⟩
              · skip
                refine lv_if_ne (tgt := 51) hx hb dX11_shared_45 (by decide) (fun c8 => ?_) (fun c8 => ?_)
                · skip
                  refine lv_aload_n hx hb dX11_shared_51 rfl (lv_at hl 0 rfl) ?_
                  refine va_get (D := (dC, dI)) (ci := 11) (v := .ref (g 11 8)) (C := RX11) (T := TX11) (N := 11) hx hb ht inX11 hown hK hP 0 rfl rfl 8 (by decide) (ht _ m_423) (fun _ h9 => h9) rfl dX11_shared_52 ?_
                  refine va_get (D := (dC, dI)) (ci := 4) (v := .int 0) (C := RX4) (T := TX4) (N := 3) hx hb ht inX4 hown hK hP 1 rfl rfl 2 (by decide) (ht _ m_369) (fun _ h9 => h9) rfl dX11_shared_55 ?_
                  refine lv_bipush (v := 8) hx hb dX11_shared_58 (by decide) ?_
                  refine lv_icmp_lt (tgt := 66) hx hb dX11_shared_60 (by decide) (fun c9 => ?_) (fun c9 => ?_)
                  · skip
                    refine lv_aload_n hx hb dX11_shared_66 rfl (lv_at hl 0 rfl) ?_
                    refine va_get (D := (dC, dI)) (ci := 11) (v := .ref (g 11 8)) (C := RX11) (T := TX11) (N := 11) hx hb ht inX11 hown hK hP 0 rfl rfl 8 (by decide) (ht _ m_423) (fun _ h9 => h9) rfl dX11_shared_67 ?_
                    refine lv_iload_n hx hb dX11_shared_70 rfl (lv_at hl 1 rfl) ?_
                    refine lv_iload hx hb dX11_shared_71 (lv_at hl 4 rfl) ?_
                    refine lv_isub hx hb dX11_shared_73 ?_
                    refine lv_topi (fun v10 ev10 => ?_)
                    have tv10 := z_sub ev10 (rfl : (a).toInt = _) (rfl : (k).toInt = _) (by omega) (by omega)
                    refine lv_iload_n hx hb dX11_shared_74 rfl (lv_at hl 2 rfl) ?_
                    refine lv_iload_n hx hb dX11_shared_75 rfl (lv_at hl 3 rfl) ?_
                    refine lv_isub hx hb dX11_shared_76 ?_
                    refine lv_topi (fun v11 ev11 => ?_)
                    have tv11 := z_sub ev11 (rfl : (b).toInt = _) (rfl : (d).toInt = _) (by omega) (by omega)
                    have hPc := hP.sub (ws' := [((g 11 8), .inr (4, (o4 h g))), ((g 4 0), .inl ((ca 4 0), 8, .inl (fun _ => 0))), ((g 4 1), .inl ((ca 4 1), 8, .inl (fun _ => 0)))]) [1, 2, 3] rfl
                    have hKc := hK.sub (tys' := [((ca 4 0), .int), ((ca 4 1), .int)]) [0, 1] rfl
                    have hDc := hD.sub (ws' := [((g 11 8), .inr (4, (o4 h g))), ((g 4 0), .inl ((ca 4 0), 8, .inl (fun _ => 0))), ((g 4 1), .inl ((ca 4 1), 8, .inl (fun _ => 0)))]) [1, 2, 3] (by decide) rfl
                    have hFc := va_free (wc := [((g 11 8), .inr (4, (o4 h g))), ((g 4 0), .inl ((ca 4 0), 8, .inl (fun _ => 0))), ((g 4 1), .inl ((ca 4 1), 8, .inl (fun _ => 0)))]) hD hS hA [1, 2, 3] rfl
                    refine va_calli (va_runV (As := [.int v10, .int v11]) (rest := []) ⟨hx, hb, hml, hown, ht⟩ (c_X4_compare l dC dI s.heap.size h g ca v10 v11) (kV 2 ht m_1038 m_1039 m_1040 m_87 m_1041 rfl rfl hd_X4_compare_v ⟨Nat.le_of_ble_eq_true rfl, Nat.le_of_ble_eq_true rfl⟩) (vW hPc hKc hDc (va_recv hKc hPc (ci := 4) (q0 := 0) rfl rfl)) rfl rfl hl.1 rfl (lv_room (Nat.le_of_ble_eq_true rfl)) dX11_shared_77 ⟨Nat.le_of_ble_eq_true rfl, Nat.le_of_ble_eq_true rfl⟩) hS (fun q _ h => hFc q h) hFc (fun r12 u t H1 locs ht9 hvm hr12 hB hz1 hk1 hS => ?_)
                    have hP1 : va_P (dC, dI) classes [] H1 := noP
                    have hD1 : va_D (va_A [((g 11 8), .inr (4, (o4 h g))), ((g 4 0), .inl ((ca 4 0), 8, .inl (fun _ => 0))), ((g 4 1), .inl ((ca 4 1), 8, .inl (fun _ => 0)))] s.heap.size) [] := noD
                    obtain ⟨hP, hD⟩ := va_join (wr := [(h, .inr (11, (o11 h g)))]) (w1 := []) hP hD [1, 2, 3] [0] rfl rfl (by decide) (by decide) hk1 hFc hP1 hD1
                    generalize H1 = H at hP hS ⊢
                    have hP : va_P (dC, dI) classes [(h, .inr (11, (o11 h g)))] H := hP
                    have hD : va_D A [(h, .inr (11, (o11 h g)))] := hD
                    obtain rfl : 1 = r12 := hr12.symm
                    exact W.iret (v := 1) hx hb hr (fun t ht9 hW => ⟨⟨1, (), rfl, (by unfold F_shared; first | decide | ((repeat' split) <;> first | rfl | (exfalso; omega) | exact z_of (by decide) (by omega))), trivial⟩, hS.F ht9⟩) hS.2.2 dX11_shared_80
                  · exact absurd c9 (by decide)
                · exact absurd c8 (by decide)
              · skip
                refine lv_if_ne (tgt := 51) hx hb dX11_shared_45 (by decide) (fun c13 => ?_) (fun c13 => ?_)
                · exact absurd rfl c13
                · skip
                  refine lv_ldc hx hb hown (ht _ m_456) dX11_shared_48 ?_
                  exact W.iret (v := (-100002)) hx hb hr (fun t ht9 hW => ⟨⟨(-100002), (), rfl, (by unfold F_shared; first | decide | ((repeat' split) <;> first | rfl | (exfalso; omega) | exact z_of (by decide) (by omega))), trivial⟩, hS.F ht9⟩) hS.2.2 dX11_shared_50
          · skip
            refine lv_if_eq (tgt := 48) hx hb dX11_shared_33 (by decide) (fun c14 => ?_) (fun c14 => ?_)
            · skip
              refine lv_ldc hx hb hown (ht _ m_456) dX11_shared_48 ?_
              exact W.iret (v := (-100002)) hx hb hr (fun t ht9 hW => ⟨⟨(-100002), (), rfl, (by unfold F_shared; first | decide | ((repeat' split) <;> first | rfl | (exfalso; omega) | exact z_of (by decide) (by omega))), trivial⟩, hS.F ht9⟩) hS.2.2 dX11_shared_50
            · exact absurd rfl c14
        · exact absurd c4 (by decide)
      · skip
        refine lv_if_ne (tgt := 25) hx hb dX11_shared_19 (by decide) (fun c15 => ?_) (fun c15 => ?_)
        · exact absurd rfl c15
        · skip
          refine lv_ldc hx hb hown (ht _ m_456) dX11_shared_22 ?_
          exact W.iret (v := (-100002)) hx hb hr (fun t ht9 hW => ⟨⟨(-100002), (), rfl, (by unfold F_shared; first | decide | ((repeat' split) <;> first | rfl | (exfalso; omega) | exact z_of (by decide) (by omega))), trivial⟩, hS.F ht9⟩) hS.2.2 dX11_shared_24
  · skip
    refine lv_if_eq (tgt := 22) hx hb dX11_shared_8 (by decide) (fun c16 => ?_) (fun c16 => ?_)
    · skip
      refine lv_ldc hx hb hown (ht _ m_456) dX11_shared_22 ?_
      exact W.iret (v := (-100002)) hx hb hr (fun t ht9 hW => ⟨⟨(-100002), (), rfl, (by unfold F_shared; first | decide | ((repeat' split) <;> first | rfl | (exfalso; omega) | exact z_of (by decide) (by omega))), trivial⟩, hS.F ht9⟩) hS.2.2 dX11_shared_24
    · exact absurd rfl c16
set_option maxHeartbeats 4000000 in
set_option maxRecDepth 100000 in
/-- X11_houses -/
theorem c_X11_houses (l : Launch) (dC : Nat → ClassId) (dI : Nat → Nat → Nat) (h : Nat) (g : Nat → Nat → Nat) (ca : Nat → Nat → ClassId) (n : Int32) : Met l yX11_houses (wc yX11_houses cX11_houses 3 (some .int)) ({ frames := 1, cells := 0, slots := 0, locals := 22 } : Room) (pR (dC, dI) classes [(h, .inr (11, (o11 h g))), ((g 11 8), .inr (4, (o4 h g)))] [] [.ref h, .int n]) (vp_Si (fun r => r = F_houses n)) 0 0 (fun _ => False) := by
  refine Met.ofW (cc := cX11_houses) (maxL := 3) (ret := (some .int)) (by decide) rfl ?_
  intro p e s m args below meth c s₁ B hml hv
  obtain ⟨rfl, hP, hK⟩ := hv
  have hx := B.exec
  have hb := B.bytes
  have hr := B.returns
  have ht := tb_tl (atoms_spec (ws := wc yX11_houses cX11_houses 3 (some .int)) B.pre)
  have hown : s.vm.findClass RX11 = some m.cls := findClass_of_methodNamed B.named
  have hlocks := B.notSynchronized
  have hl := lv_entry [.ref h, .int n] (n := 3) (Nat.le_of_ble_eq_true rfl)
  rw [lg_entry_eq]
  generalize (lg_sl [.ref h, .int n] ++ List.replicate (3 - (lg_sl [.ref h, .int n]).length) Slot.unset).toArray = ls at hl ⊢
  have hl : lv_has ls 3 [(0, .ref h), (1, .int n)] := hl
  refine lv_iload_n hx hb dX11_houses_0 rfl (lv_at hl 1 rfl) ?_
  refine lv_iconst (v := 0) hx hb dX11_houses_1 (by decide) ?_
  refine lv_iconst (v := 2) hx hb dX11_houses_2 (by decide) ?_
  have hPc := hP.sub (ws' := []) [] rfl
  have hKc := hK.sub (tys' := []) [] rfl
  refine vp_callSi (W.runS (As := [.int n, .int 0, .int 2]) (rest := []) ⟨hx, hb, hml, hown, ht⟩ (c_X11_within l dC dI n 0 2 (n.toInt) (0) (2) (rfl : (n).toInt = _) (by decide : (0 : Int32).toInt = 0) (by decide : (2 : Int32).toInt = 2)) (kS 3 ht m_453 m_454 m_77 m_455 rfl rfl hd_X11_within_v ⟨Nat.le_of_ble_eq_true rfl, Nat.le_of_ble_eq_true rfl⟩) (sR hPc hKc) rfl rfl hl.1 rfl (lv_room (Nat.le_of_ble_eq_true rfl)) dX11_houses_3 ⟨Nat.le_of_ble_eq_true rfl, Nat.le_of_ble_eq_true rfl⟩) (fun r1 hr1 => ?_)
  rcases hr1 with ⟨rfl, fr1⟩ | ⟨rfl, fr1⟩
  · skip
    refine lv_if_ne (tgt := 12) hx hb dX11_houses_6 (by decide) (fun c2 => ?_) (fun c2 => ?_)
    · skip
      refine lv_aload_n hx hb dX11_houses_12 rfl (lv_at hl 0 rfl) ?_
      refine va_get (D := (dC, dI)) (ci := 11) (v := .ref (g 11 8)) (C := RX11) (T := TX11) (N := 11) hx hb ht inX11 hown hK hP 0 rfl rfl 8 (by decide) (ht _ m_423) (fun _ h9 => h9) rfl dX11_houses_13 ?_
      refine va_get (D := (dC, dI)) (ci := 4) (v := .int 0) (C := RX4) (T := TX4) (N := 3) hx hb ht inX4 hown hK hP 1 rfl rfl 2 (by decide) (ht _ m_369) (fun _ h9 => h9) rfl dX11_houses_16 ?_
      refine lv_if_ne (tgt := 25) hx hb dX11_houses_19 (by decide) (fun c3 => ?_) (fun c3 => ?_)
      · exact absurd rfl c3
      · skip
        refine lv_ldc hx hb hown (ht _ m_457) dX11_houses_22 ?_
        exact W.iret (v := (-100003)) hx hb hr (fun t ht9 hW => ⟨(-100003), rfl, (by unfold F_houses; first | decide | ((repeat' split) <;> first | rfl | (exfalso; omega) | exact z_of (by decide) (by omega))), ht9⟩) (fun q hq => by cases hq) dX11_houses_24
    · exact absurd c2 (by decide)
  · skip
    refine lv_if_ne (tgt := 12) hx hb dX11_houses_6 (by decide) (fun c4 => ?_) (fun c4 => ?_)
    · exact absurd rfl c4
    · skip
      refine lv_ldc hx hb hown (ht _ m_456) dX11_houses_9 ?_
      exact W.iret (v := (-100002)) hx hb hr (fun t ht9 hW => ⟨(-100002), rfl, (by unfold F_houses; first | decide | ((repeat' split) <;> first | rfl | (exfalso; omega) | exact z_of (by decide) (by omega))), ht9⟩) (fun q hq => by cases hq) dX11_houses_11
set_option maxHeartbeats 4000000 in
set_option maxRecDepth 100000 in
/-- X11_stood -/
theorem c_X11_stood (l : Launch) (dC : Nat → ClassId) (dI : Nat → Nat → Nat) (h : Nat) (g : Nat → Nat → Nat) (ca : Nat → Nat → ClassId) (d : Int32) (n : Int32) : Met l yX11_stood (wc yX11_stood cX11_stood 3 (some .long)) ({ frames := 1, cells := 0, slots := 0, locals := 26 } : Room) (pR (dC, dI) classes [(h, .inr (11, (o11 h g))), ((g 11 9), .inr (6, (o6 h g)))] [] [.ref h, .int d, .int n]) (vp_Sl (fun r => r = F_stood d n)) 0 0 (fun _ => False) := by
  refine Met.ofW (cc := cX11_stood) (maxL := 3) (ret := (some .long)) (by decide) rfl ?_
  intro p e s m args below meth c s₁ B hml hv
  obtain ⟨rfl, hP, hK⟩ := hv
  have hx := B.exec
  have hb := B.bytes
  have hr := B.returns
  have ht := tb_tl (atoms_spec (ws := wc yX11_stood cX11_stood 3 (some .long)) B.pre)
  have hown : s.vm.findClass RX11 = some m.cls := findClass_of_methodNamed B.named
  have hlocks := B.notSynchronized
  have hl := lv_entry [.ref h, .int d, .int n] (n := 3) (Nat.le_of_ble_eq_true rfl)
  rw [lg_entry_eq]
  generalize (lg_sl [.ref h, .int d, .int n] ++ List.replicate (3 - (lg_sl [.ref h, .int d, .int n]).length) Slot.unset).toArray = ls at hl ⊢
  have hl : lv_has ls 3 [(0, .ref h), (1, .int d), (2, .int n)] := hl
  refine lv_iload_n hx hb dX11_stood_0 rfl (lv_at hl 1 rfl) ?_
  refine lv_iconst (v := 0) hx hb dX11_stood_1 (by decide) ?_
  refine lv_aload_n hx hb dX11_stood_2 rfl (lv_at hl 0 rfl) ?_
  refine va_get (D := (dC, dI)) (ci := 11) (v := .int 0) (C := RX11) (T := TX11) (N := 11) hx hb ht inX11 hown hK hP 0 rfl rfl 10 (by decide) (ht _ m_425) (fun _ h9 => h9) rfl dX11_stood_3 ?_
  have hPc := hP.sub (ws' := []) [] rfl
  have hKc := hK.sub (tys' := []) [] rfl
  refine vp_callSi (W.runS (As := [.int d, .int 0, .int 0]) (rest := []) ⟨hx, hb, hml, hown, ht⟩ (c_X11_within l dC dI d 0 0 (d.toInt) (0) (0) (rfl : (d).toInt = _) (by decide : (0 : Int32).toInt = 0) (by decide : (0 : Int32).toInt = 0)) (kS 3 ht m_453 m_454 m_77 m_455 rfl rfl hd_X11_within_v ⟨Nat.le_of_ble_eq_true rfl, Nat.le_of_ble_eq_true rfl⟩) (sR hPc hKc) rfl rfl hl.1 rfl (lv_room (Nat.le_of_ble_eq_true rfl)) dX11_stood_6 ⟨Nat.le_of_ble_eq_true rfl, Nat.le_of_ble_eq_true rfl⟩) (fun r1 hr1 => ?_)
  rcases hr1 with ⟨rfl, fr1⟩ | ⟨rfl, fr1⟩
  · skip
    refine lv_if_eq (tgt := 21) hx hb dX11_stood_9 (by decide) (fun c2 => ?_) (fun c2 => ?_)
    · exact absurd c2 (by decide)
    · skip
      refine lv_iload_n hx hb dX11_stood_12 rfl (lv_at hl 2 rfl) ?_
      refine lv_iconst (v := 0) hx hb dX11_stood_13 (by decide) ?_
      refine lv_iconst (v := 1) hx hb dX11_stood_14 (by decide) ?_
      have hPc := hP.sub (ws' := []) [] rfl
      have hKc := hK.sub (tys' := []) [] rfl
      refine vp_callSi (W.runS (As := [.int n, .int 0, .int 1]) (rest := []) ⟨hx, hb, hml, hown, ht⟩ (c_X11_within l dC dI n 0 1 (n.toInt) (0) (1) (rfl : (n).toInt = _) (by decide : (0 : Int32).toInt = 0) (by decide : (1 : Int32).toInt = 1)) (kS 3 ht m_453 m_454 m_77 m_455 rfl rfl hd_X11_within_v ⟨Nat.le_of_ble_eq_true rfl, Nat.le_of_ble_eq_true rfl⟩) (sR hPc hKc) rfl rfl hl.1 rfl (lv_room (Nat.le_of_ble_eq_true rfl)) dX11_stood_15 ⟨Nat.le_of_ble_eq_true rfl, Nat.le_of_ble_eq_true rfl⟩) (fun r3 hr3 => ?_)
      rcases hr3 with ⟨rfl, fr3⟩ | ⟨rfl, fr3⟩
      · skip
        refine lv_if_ne (tgt := 25) hx hb dX11_stood_18 (by decide) (fun c4 => ?_) (fun c4 => ?_)
        · skip
          refine lv_aload_n hx hb dX11_stood_25 rfl (lv_at hl 0 rfl) ?_
          refine va_get (D := (dC, dI)) (ci := 11) (v := .ref (g 11 9)) (C := RX11) (T := TX11) (N := 11) hx hb ht inX11 hown hK hP 0 rfl rfl 9 (by decide) (ht _ m_424) (fun _ h9 => h9) rfl dX11_stood_26 ?_
          refine lv_iload_n hx hb dX11_stood_29 rfl (lv_at hl 1 rfl) ?_
          refine lv_iload_n hx hb dX11_stood_30 rfl (lv_at hl 2 rfl) ?_
          refine lv_if_ne (tgt := 38) hx hb dX11_stood_31 (by decide) (fun c5 => ?_) (fun c5 => ?_)
          · have fc5 := z_ne (rfl : (n).toInt = _) (by decide : (0 : Int32).toInt = 0) c5
            refine lv_iconst (v := 0) hx hb dX11_stood_38 (by decide) ?_
            have hPc := hP.sub (ws' := [((g 11 9), .inr (6, (o6 h g)))]) [1] rfl
            have hKc := hK.sub (tys' := []) [] rfl
            refine vp_callSl (W.runV (As := [.int d, .int 0]) (rest := []) ⟨hx, hb, hml, hown, ht⟩ (c_X6_standing l dC dI h g ca d 0) (kV 2 ht m_1129 m_1130 m_1131 m_88 m_1132 rfl rfl hd_X6_standing_v ⟨Nat.le_of_ble_eq_true rfl, Nat.le_of_ble_eq_true rfl⟩) (vR hPc hKc (va_recv hKc hPc (ci := 6) (q0 := 0) rfl rfl)) rfl rfl hl.1 rfl (lv_room (Nat.le_of_ble_eq_true rfl)) dX11_stood_39 ⟨Nat.le_of_ble_eq_true rfl, Nat.le_of_ble_eq_true rfl⟩) (fun r6 hr6 => ?_)
            obtain rfl : 0 = r6 := hr6.symm
            exact W.lret (v := 0) hx hb hr (fun t ht9 hW => ⟨0, rfl, (by unfold F_stood; first | decide | ((repeat' split) <;> first | rfl | (exfalso; omega) | exact z_of (by decide) (by omega))), ht9⟩) (fun q hq => by cases hq) dX11_stood_42
          · have fc5 := z_eq (rfl : (n).toInt = _) (by decide : (0 : Int32).toInt = 0) c5
            refine lv_iconst (v := 1) hx hb dX11_stood_34 (by decide) ?_
            refine lv_goto (tgt := 39) hx hb dX11_stood_35 (by decide) ?_
            have hPc := hP.sub (ws' := [((g 11 9), .inr (6, (o6 h g)))]) [1] rfl
            have hKc := hK.sub (tys' := []) [] rfl
            refine vp_callSl (W.runV (As := [.int d, .int 1]) (rest := []) ⟨hx, hb, hml, hown, ht⟩ (c_X6_standing l dC dI h g ca d 1) (kV 2 ht m_1129 m_1130 m_1131 m_88 m_1132 rfl rfl hd_X6_standing_v ⟨Nat.le_of_ble_eq_true rfl, Nat.le_of_ble_eq_true rfl⟩) (vR hPc hKc (va_recv hKc hPc (ci := 6) (q0 := 0) rfl rfl)) rfl rfl hl.1 rfl (lv_room (Nat.le_of_ble_eq_true rfl)) dX11_stood_39 ⟨Nat.le_of_ble_eq_true rfl, Nat.le_of_ble_eq_true rfl⟩) (fun r7 hr7 => ?_)
            obtain rfl : 0 = r7 := hr7.symm
            exact W.lret (v := 0) hx hb hr (fun t ht9 hW => ⟨0, rfl, (by unfold F_stood; first | decide | ((repeat' split) <;> first | rfl | (exfalso; omega) | exact z_of (by decide) (by omega))), ht9⟩) (fun q hq => by cases hq) dX11_stood_42
        · exact absurd c4 (by decide)
      · skip
        refine lv_if_ne (tgt := 25) hx hb dX11_stood_18 (by decide) (fun c8 => ?_) (fun c8 => ?_)
        · exact absurd rfl c8
        · skip
          refine lv_ldc2 hx hb hown (ht _ m_838) dX11_stood_21 ?_
          exact W.lret (v := (-100002)) hx hb hr (fun t ht9 hW => ⟨(-100002), rfl, (by unfold F_stood; first | decide | ((repeat' split) <;> first | rfl | (exfalso; omega) | exact z_of (by decide) (by omega))), ht9⟩) (fun q hq => by cases hq) dX11_stood_24
  · skip
    refine lv_if_eq (tgt := 21) hx hb dX11_stood_9 (by decide) (fun c9 => ?_) (fun c9 => ?_)
    · skip
      refine lv_ldc2 hx hb hown (ht _ m_838) dX11_stood_21 ?_
      exact W.lret (v := (-100002)) hx hb hr (fun t ht9 hW => ⟨(-100002), rfl, (by unfold F_stood; first | decide | ((repeat' split) <;> first | rfl | (exfalso; omega) | exact z_of (by decide) (by omega))), ht9⟩) (fun q hq => by cases hq) dX11_stood_24
    · exact absurd rfl c9
set_option maxHeartbeats 4000000 in
set_option maxRecDepth 100000 in
/-- X12_isDay -/
theorem c_X12_isDay (l : Launch) (dC : Nat → ClassId) (dI : Nat → Nat → Nat) (a : Int32) : Met l yX12_isDay (wc yX12_isDay cX12_isDay 1 (some .boolean)) ({ frames := 1, cells := 0, slots := 0, locals := 25 } : Room) (pR (dC, dI) classes [] [] [.int a]) (vp_Si (fun r => (r = 1 ∧ (0 ≤ a.toInt ∧ a.toInt ≤ 3000)) ∨ (r = 0 ∧ ¬ (0 ≤ a.toInt ∧ a.toInt ≤ 3000)))) 0 0 (fun _ => False) := by
  refine Met.ofW (cc := cX12_isDay) (maxL := 1) (ret := (some .boolean)) (by decide) rfl ?_
  intro p e s m args below meth c s₁ B hml hv
  obtain ⟨rfl, hP, hK⟩ := hv
  have hx := B.exec
  have hb := B.bytes
  have hr := B.returns
  have ht := tb_tl (atoms_spec (ws := wc yX12_isDay cX12_isDay 1 (some .boolean)) B.pre)
  have hown : s.vm.findClass RX12 = some m.cls := findClass_of_methodNamed B.named
  have hlocks := B.notSynchronized
  have hl := lv_entry [.int a] (n := 1) (Nat.le_of_ble_eq_true rfl)
  rw [lg_entry_eq]
  generalize (lg_sl [.int a] ++ List.replicate (1 - (lg_sl [.int a]).length) Slot.unset).toArray = ls at hl ⊢
  have hl : lv_has ls 1 [(0, .int a)] := hl
  refine lv_iload_n hx hb dX12_isDay_0 rfl (lv_at hl 0 rfl) ?_
  refine lv_i2l (v := (a.toInt64)) hx hb dX12_isDay_1 rfl ?_
  refine lv_lconst (v := 0) hx hb dX12_isDay_2 (by decide) ?_
  refine lv_ldc2 hx hb hown (ht _ m_1425) dX12_isDay_3 ?_
  have hPc := hP.sub (ws' := []) [] rfl
  have hKc := hK.sub (tys' := []) [] rfl
  refine vp_callSi (W.runS (As := [.long (a.toInt64), .long 0, .long 3000]) (rest := []) ⟨hx, hb, hml, hown, ht⟩ (c_X12_in l dC dI (a.toInt64) 0 3000 (a.toInt) (0) (3000) ((Int32.toInt_toInt64 a).trans rfl) (by decide : (0 : Int64).toInt = 0) (by decide : (3000 : Int64).toInt = 3000)) (kS 3 ht m_1370 m_1371 m_89 m_1372 rfl rfl hd_X12_in_v ⟨Nat.le_of_ble_eq_true rfl, Nat.le_of_ble_eq_true rfl⟩) (sR hPc hKc) rfl rfl hl.1 rfl (lv_room (Nat.le_of_ble_eq_true rfl)) dX12_isDay_6 ⟨Nat.le_of_ble_eq_true rfl, Nat.le_of_ble_eq_true rfl⟩) (fun r1 hr1 => ?_)
  rcases hr1 with ⟨rfl, fr1⟩ | ⟨rfl, fr1⟩
  · skip
    exact W.zret (v := 1) hx hb hr rfl (fun t ht9 hW => ⟨1, rfl, Or.inl ⟨rfl, by omega⟩, ht9⟩) (fun q hq => by cases hq) dX12_isDay_9
  · skip
    exact W.zret (v := 0) hx hb hr rfl (fun t ht9 hW => ⟨0, rfl, Or.inr ⟨rfl, by omega⟩, ht9⟩) (fun q hq => by cases hq) dX12_isDay_9
set_option maxHeartbeats 4000000 in
set_option maxRecDepth 100000 in
/-- X12_isWeight -/
theorem c_X12_isWeight (l : Launch) (dC : Nat → ClassId) (dI : Nat → Nat → Nat) (a : Int32) : Met l yX12_isWeight (wc yX12_isWeight cX12_isWeight 1 (some .boolean)) ({ frames := 1, cells := 0, slots := 0, locals := 25 } : Room) (pR (dC, dI) classes [] [] [.int a]) (vp_Si (fun r => (r = 1 ∧ (1 ≤ a.toInt ∧ a.toInt ≤ 9999)) ∨ (r = 0 ∧ ¬ (1 ≤ a.toInt ∧ a.toInt ≤ 9999)))) 0 0 (fun _ => False) := by
  refine Met.ofW (cc := cX12_isWeight) (maxL := 1) (ret := (some .boolean)) (by decide) rfl ?_
  intro p e s m args below meth c s₁ B hml hv
  obtain ⟨rfl, hP, hK⟩ := hv
  have hx := B.exec
  have hb := B.bytes
  have hr := B.returns
  have ht := tb_tl (atoms_spec (ws := wc yX12_isWeight cX12_isWeight 1 (some .boolean)) B.pre)
  have hown : s.vm.findClass RX12 = some m.cls := findClass_of_methodNamed B.named
  have hlocks := B.notSynchronized
  have hl := lv_entry [.int a] (n := 1) (Nat.le_of_ble_eq_true rfl)
  rw [lg_entry_eq]
  generalize (lg_sl [.int a] ++ List.replicate (1 - (lg_sl [.int a]).length) Slot.unset).toArray = ls at hl ⊢
  have hl : lv_has ls 1 [(0, .int a)] := hl
  refine lv_iload_n hx hb dX12_isWeight_0 rfl (lv_at hl 0 rfl) ?_
  refine lv_i2l (v := (a.toInt64)) hx hb dX12_isWeight_1 rfl ?_
  refine lv_lconst (v := 1) hx hb dX12_isWeight_2 (by decide) ?_
  refine lv_ldc2 hx hb hown (ht _ m_1393) dX12_isWeight_3 ?_
  have hPc := hP.sub (ws' := []) [] rfl
  have hKc := hK.sub (tys' := []) [] rfl
  refine vp_callSi (W.runS (As := [.long (a.toInt64), .long 1, .long 9999]) (rest := []) ⟨hx, hb, hml, hown, ht⟩ (c_X12_in l dC dI (a.toInt64) 1 9999 (a.toInt) (1) (9999) ((Int32.toInt_toInt64 a).trans rfl) (by decide : (1 : Int64).toInt = 1) (by decide : (9999 : Int64).toInt = 9999)) (kS 3 ht m_1370 m_1371 m_89 m_1372 rfl rfl hd_X12_in_v ⟨Nat.le_of_ble_eq_true rfl, Nat.le_of_ble_eq_true rfl⟩) (sR hPc hKc) rfl rfl hl.1 rfl (lv_room (Nat.le_of_ble_eq_true rfl)) dX12_isWeight_6 ⟨Nat.le_of_ble_eq_true rfl, Nat.le_of_ble_eq_true rfl⟩) (fun r1 hr1 => ?_)
  rcases hr1 with ⟨rfl, fr1⟩ | ⟨rfl, fr1⟩
  · skip
    exact W.zret (v := 1) hx hb hr rfl (fun t ht9 hW => ⟨1, rfl, Or.inl ⟨rfl, by omega⟩, ht9⟩) (fun q hq => by cases hq) dX12_isWeight_9
  · skip
    exact W.zret (v := 0) hx hb hr rfl (fun t ht9 hW => ⟨0, rfl, Or.inr ⟨rfl, by omega⟩, ht9⟩) (fun q hq => by cases hq) dX12_isWeight_9
set_option maxHeartbeats 4000000 in
set_option maxRecDepth 100000 in
/-- X12_isPast -/
theorem c_X12_isPast (l : Launch) (dC : Nat → ClassId) (dI : Nat → Nat → Nat) (h : Nat) (g : Nat → Nat → Nat) (ca : Nat → Nat → ClassId) (a : Int32) : Met l yX12_isPast (wc yX12_isPast cX12_isPast 2 (some .boolean)) ({ frames := 1, cells := 0, slots := 0, locals := 25 } : Room) (pR (dC, dI) classes [(h, .inr (12, (o12 h g)))] [] [.ref h, .int a]) (vp_Si (fun r => (r = 1 ∧ (0 ≤ a.toInt ∧ a.toInt ≤ 0)) ∨ (r = 0 ∧ ¬ (0 ≤ a.toInt ∧ a.toInt ≤ 0)))) 0 0 (fun _ => False) := by
  refine Met.ofW (cc := cX12_isPast) (maxL := 2) (ret := (some .boolean)) (by decide) rfl ?_
  intro p e s m args below meth c s₁ B hml hv
  obtain ⟨rfl, hP, hK⟩ := hv
  have hx := B.exec
  have hb := B.bytes
  have hr := B.returns
  have ht := tb_tl (atoms_spec (ws := wc yX12_isPast cX12_isPast 2 (some .boolean)) B.pre)
  have hown : s.vm.findClass RX12 = some m.cls := findClass_of_methodNamed B.named
  have hlocks := B.notSynchronized
  have hl := lv_entry [.ref h, .int a] (n := 2) (Nat.le_of_ble_eq_true rfl)
  rw [lg_entry_eq]
  generalize (lg_sl [.ref h, .int a] ++ List.replicate (2 - (lg_sl [.ref h, .int a]).length) Slot.unset).toArray = ls at hl ⊢
  have hl : lv_has ls 2 [(0, .ref h), (1, .int a)] := hl
  refine lv_iload_n hx hb dX12_isPast_0 rfl (lv_at hl 1 rfl) ?_
  refine lv_i2l (v := (a.toInt64)) hx hb dX12_isPast_1 rfl ?_
  refine lv_lconst (v := 0) hx hb dX12_isPast_2 (by decide) ?_
  refine lv_aload_n hx hb dX12_isPast_3 rfl (lv_at hl 0 rfl) ?_
  refine va_get (D := (dC, dI)) (ci := 12) (v := .int 0) (C := RX12) (T := TX12) (N := 75) hx hb ht inX12 hown hK hP 0 rfl rfl 0 (by decide) (ht _ m_1139) (fun _ h9 => h9) rfl dX12_isPast_4 ?_
  refine lv_i2l (v := 0) hx hb dX12_isPast_7 (by decide) ?_
  have hPc := hP.sub (ws' := []) [] rfl
  have hKc := hK.sub (tys' := []) [] rfl
  refine vp_callSi (W.runS (As := [.long (a.toInt64), .long 0, .long 0]) (rest := []) ⟨hx, hb, hml, hown, ht⟩ (c_X12_in l dC dI (a.toInt64) 0 0 (a.toInt) (0) (0) ((Int32.toInt_toInt64 a).trans rfl) (by decide : (0 : Int64).toInt = 0) (by decide : (0 : Int64).toInt = 0)) (kS 3 ht m_1370 m_1371 m_89 m_1372 rfl rfl hd_X12_in_v ⟨Nat.le_of_ble_eq_true rfl, Nat.le_of_ble_eq_true rfl⟩) (sR hPc hKc) rfl rfl hl.1 rfl (lv_room (Nat.le_of_ble_eq_true rfl)) dX12_isPast_8 ⟨Nat.le_of_ble_eq_true rfl, Nat.le_of_ble_eq_true rfl⟩) (fun r1 hr1 => ?_)
  rcases hr1 with ⟨rfl, fr1⟩ | ⟨rfl, fr1⟩
  · skip
    exact W.zret (v := 1) hx hb hr rfl (fun t ht9 hW => ⟨1, rfl, Or.inl ⟨rfl, by omega⟩, ht9⟩) (fun q hq => by cases hq) dX12_isPast_11
  · skip
    exact W.zret (v := 0) hx hb hr rfl (fun t ht9 hW => ⟨0, rfl, Or.inr ⟨rfl, by omega⟩, ht9⟩) (fun q hq => by cases hq) dX12_isPast_11
set_option maxHeartbeats 4000000 in
set_option maxRecDepth 100000 in
/-- X12_noBale -/
theorem c_X12_noBale (l : Launch) (dC : Nat → ClassId) (dI : Nat → Nat → Nat) (h : Nat) (g : Nat → Nat → Nat) (ca : Nat → Nat → ClassId) (a : Int32) : Met l yX12_noBale (wc yX12_noBale cX12_noBale 2 (some .boolean)) ({ frames := 1, cells := 0, slots := 0, locals := 25 } : Room) (pR (dC, dI) classes [(h, .inr (12, (o12 h g)))] [] [.ref h, .int a]) (vp_Si (fun r => r = 1)) 0 0 (fun _ => False) := by
  refine Met.ofW (cc := cX12_noBale) (maxL := 2) (ret := (some .boolean)) (by decide) rfl ?_
  intro p e s m args below meth c s₁ B hml hv
  obtain ⟨rfl, hP, hK⟩ := hv
  have hx := B.exec
  have hb := B.bytes
  have hr := B.returns
  have ht := tb_tl (atoms_spec (ws := wc yX12_noBale cX12_noBale 2 (some .boolean)) B.pre)
  have hown : s.vm.findClass RX12 = some m.cls := findClass_of_methodNamed B.named
  have hlocks := B.notSynchronized
  have hl := lv_entry [.ref h, .int a] (n := 2) (Nat.le_of_ble_eq_true rfl)
  rw [lg_entry_eq]
  generalize (lg_sl [.ref h, .int a] ++ List.replicate (2 - (lg_sl [.ref h, .int a]).length) Slot.unset).toArray = ls at hl ⊢
  have hl : lv_has ls 2 [(0, .ref h), (1, .int a)] := hl
  refine lv_iload_n hx hb dX12_noBale_0 rfl (lv_at hl 1 rfl) ?_
  refine lv_i2l (v := (a.toInt64)) hx hb dX12_noBale_1 rfl ?_
  refine lv_lconst (v := 0) hx hb dX12_noBale_2 (by decide) ?_
  refine lv_aload_n hx hb dX12_noBale_3 rfl (lv_at hl 0 rfl) ?_
  refine va_get (D := (dC, dI)) (ci := 12) (v := .int 0) (C := RX12) (T := TX12) (N := 75) hx hb ht inX12 hown hK hP 0 rfl rfl 1 (by decide) (ht _ m_1140) (fun _ h9 => h9) rfl dX12_noBale_4 ?_
  refine lv_iconst (v := 1) hx hb dX12_noBale_7 (by decide) ?_
  refine lv_isub hx hb dX12_noBale_8 ?_
  refine lv_topi (fun v1 ev1 => ?_)
  obtain rfl : (-1) = v1 := (ev1.trans (by decide)).symm
  refine lv_i2l (v := (-1)) hx hb dX12_noBale_9 (by decide) ?_
  have hPc := hP.sub (ws' := []) [] rfl
  have hKc := hK.sub (tys' := []) [] rfl
  refine vp_callSi (W.runS (As := [.long (a.toInt64), .long 0, .long (-1)]) (rest := []) ⟨hx, hb, hml, hown, ht⟩ (c_X12_in l dC dI (a.toInt64) 0 (-1) (a.toInt) (0) ((-1)) ((Int32.toInt_toInt64 a).trans rfl) (by decide : (0 : Int64).toInt = 0) (by decide : ((-1) : Int64).toInt = (-1))) (kS 3 ht m_1370 m_1371 m_89 m_1372 rfl rfl hd_X12_in_v ⟨Nat.le_of_ble_eq_true rfl, Nat.le_of_ble_eq_true rfl⟩) (sR hPc hKc) rfl rfl hl.1 rfl (lv_room (Nat.le_of_ble_eq_true rfl)) dX12_noBale_10 ⟨Nat.le_of_ble_eq_true rfl, Nat.le_of_ble_eq_true rfl⟩) (fun r2 hr2 => ?_)
  rcases hr2 with ⟨rfl, fr2⟩ | ⟨rfl, fr2⟩
  · exfalso; omega
  · skip
    refine lv_if_ne (tgt := 20) hx hb dX12_noBale_13 (by decide) (fun c3 => ?_) (fun c3 => ?_)
    · exact absurd rfl c3
    · skip
      refine lv_iconst (v := 1) hx hb dX12_noBale_16 (by decide) ?_
      refine lv_goto (tgt := 21) hx hb dX12_noBale_17 (by decide) ?_
      exact W.zret (v := 1) hx hb hr rfl (fun t ht9 hW => ⟨1, rfl, rfl, ht9⟩) (fun q hq => by cases hq) dX12_noBale_21
set_option maxHeartbeats 4000000 in
set_option maxRecDepth 100000 in
/-- X12_noSkein -/
theorem c_X12_noSkein (l : Launch) (dC : Nat → ClassId) (dI : Nat → Nat → Nat) (h : Nat) (g : Nat → Nat → Nat) (ca : Nat → Nat → ClassId) (a : Int32) : Met l yX12_noSkein (wc yX12_noSkein cX12_noSkein 2 (some .boolean)) ({ frames := 1, cells := 0, slots := 0, locals := 25 } : Room) (pR (dC, dI) classes [(h, .inr (12, (o12 h g)))] [] [.ref h, .int a]) (vp_Si (fun r => r = 1)) 0 0 (fun _ => False) := by
  refine Met.ofW (cc := cX12_noSkein) (maxL := 2) (ret := (some .boolean)) (by decide) rfl ?_
  intro p e s m args below meth c s₁ B hml hv
  obtain ⟨rfl, hP, hK⟩ := hv
  have hx := B.exec
  have hb := B.bytes
  have hr := B.returns
  have ht := tb_tl (atoms_spec (ws := wc yX12_noSkein cX12_noSkein 2 (some .boolean)) B.pre)
  have hown : s.vm.findClass RX12 = some m.cls := findClass_of_methodNamed B.named
  have hlocks := B.notSynchronized
  have hl := lv_entry [.ref h, .int a] (n := 2) (Nat.le_of_ble_eq_true rfl)
  rw [lg_entry_eq]
  generalize (lg_sl [.ref h, .int a] ++ List.replicate (2 - (lg_sl [.ref h, .int a]).length) Slot.unset).toArray = ls at hl ⊢
  have hl : lv_has ls 2 [(0, .ref h), (1, .int a)] := hl
  refine lv_iload_n hx hb dX12_noSkein_0 rfl (lv_at hl 1 rfl) ?_
  refine lv_i2l (v := (a.toInt64)) hx hb dX12_noSkein_1 rfl ?_
  refine lv_lconst (v := 0) hx hb dX12_noSkein_2 (by decide) ?_
  refine lv_aload_n hx hb dX12_noSkein_3 rfl (lv_at hl 0 rfl) ?_
  refine va_get (D := (dC, dI)) (ci := 12) (v := .int 0) (C := RX12) (T := TX12) (N := 75) hx hb ht inX12 hown hK hP 0 rfl rfl 3 (by decide) (ht _ m_1142) (fun _ h9 => h9) rfl dX12_noSkein_4 ?_
  refine lv_iconst (v := 1) hx hb dX12_noSkein_7 (by decide) ?_
  refine lv_isub hx hb dX12_noSkein_8 ?_
  refine lv_topi (fun v1 ev1 => ?_)
  obtain rfl : (-1) = v1 := (ev1.trans (by decide)).symm
  refine lv_i2l (v := (-1)) hx hb dX12_noSkein_9 (by decide) ?_
  have hPc := hP.sub (ws' := []) [] rfl
  have hKc := hK.sub (tys' := []) [] rfl
  refine vp_callSi (W.runS (As := [.long (a.toInt64), .long 0, .long (-1)]) (rest := []) ⟨hx, hb, hml, hown, ht⟩ (c_X12_in l dC dI (a.toInt64) 0 (-1) (a.toInt) (0) ((-1)) ((Int32.toInt_toInt64 a).trans rfl) (by decide : (0 : Int64).toInt = 0) (by decide : ((-1) : Int64).toInt = (-1))) (kS 3 ht m_1370 m_1371 m_89 m_1372 rfl rfl hd_X12_in_v ⟨Nat.le_of_ble_eq_true rfl, Nat.le_of_ble_eq_true rfl⟩) (sR hPc hKc) rfl rfl hl.1 rfl (lv_room (Nat.le_of_ble_eq_true rfl)) dX12_noSkein_10 ⟨Nat.le_of_ble_eq_true rfl, Nat.le_of_ble_eq_true rfl⟩) (fun r2 hr2 => ?_)
  rcases hr2 with ⟨rfl, fr2⟩ | ⟨rfl, fr2⟩
  · exfalso; omega
  · skip
    refine lv_if_ne (tgt := 20) hx hb dX12_noSkein_13 (by decide) (fun c3 => ?_) (fun c3 => ?_)
    · exact absurd rfl c3
    · skip
      refine lv_iconst (v := 1) hx hb dX12_noSkein_16 (by decide) ?_
      refine lv_goto (tgt := 21) hx hb dX12_noSkein_17 (by decide) ?_
      exact W.zret (v := 1) hx hb hr rfl (fun t ht9 hW => ⟨1, rfl, rfl, ht9⟩) (fun q hq => by cases hq) dX12_noSkein_21
set_option maxHeartbeats 4000000 in
set_option maxRecDepth 100000 in
/-- X12_noPaper -/
theorem c_X12_noPaper (l : Launch) (dC : Nat → ClassId) (dI : Nat → Nat → Nat) (h : Nat) (g : Nat → Nat → Nat) (ca : Nat → Nat → ClassId) (a : Int32) : Met l yX12_noPaper (wc yX12_noPaper cX12_noPaper 2 (some .boolean)) ({ frames := 1, cells := 0, slots := 0, locals := 25 } : Room) (pR (dC, dI) classes [(h, .inr (12, (o12 h g)))] [] [.ref h, .int a]) (vp_Si (fun r => r = 1)) 0 0 (fun _ => False) := by
  refine Met.ofW (cc := cX12_noPaper) (maxL := 2) (ret := (some .boolean)) (by decide) rfl ?_
  intro p e s m args below meth c s₁ B hml hv
  obtain ⟨rfl, hP, hK⟩ := hv
  have hx := B.exec
  have hb := B.bytes
  have hr := B.returns
  have ht := tb_tl (atoms_spec (ws := wc yX12_noPaper cX12_noPaper 2 (some .boolean)) B.pre)
  have hown : s.vm.findClass RX12 = some m.cls := findClass_of_methodNamed B.named
  have hlocks := B.notSynchronized
  have hl := lv_entry [.ref h, .int a] (n := 2) (Nat.le_of_ble_eq_true rfl)
  rw [lg_entry_eq]
  generalize (lg_sl [.ref h, .int a] ++ List.replicate (2 - (lg_sl [.ref h, .int a]).length) Slot.unset).toArray = ls at hl ⊢
  have hl : lv_has ls 2 [(0, .ref h), (1, .int a)] := hl
  refine lv_iload_n hx hb dX12_noPaper_0 rfl (lv_at hl 1 rfl) ?_
  refine lv_i2l (v := (a.toInt64)) hx hb dX12_noPaper_1 rfl ?_
  refine lv_lconst (v := 0) hx hb dX12_noPaper_2 (by decide) ?_
  refine lv_aload_n hx hb dX12_noPaper_3 rfl (lv_at hl 0 rfl) ?_
  refine va_get (D := (dC, dI)) (ci := 12) (v := .int 0) (C := RX12) (T := TX12) (N := 75) hx hb ht inX12 hown hK hP 0 rfl rfl 67 (by decide) (ht _ m_1206) (fun _ h9 => h9) rfl dX12_noPaper_4 ?_
  refine lv_iconst (v := 1) hx hb dX12_noPaper_7 (by decide) ?_
  refine lv_isub hx hb dX12_noPaper_8 ?_
  refine lv_topi (fun v1 ev1 => ?_)
  obtain rfl : (-1) = v1 := (ev1.trans (by decide)).symm
  refine lv_i2l (v := (-1)) hx hb dX12_noPaper_9 (by decide) ?_
  have hPc := hP.sub (ws' := []) [] rfl
  have hKc := hK.sub (tys' := []) [] rfl
  refine vp_callSi (W.runS (As := [.long (a.toInt64), .long 0, .long (-1)]) (rest := []) ⟨hx, hb, hml, hown, ht⟩ (c_X12_in l dC dI (a.toInt64) 0 (-1) (a.toInt) (0) ((-1)) ((Int32.toInt_toInt64 a).trans rfl) (by decide : (0 : Int64).toInt = 0) (by decide : ((-1) : Int64).toInt = (-1))) (kS 3 ht m_1370 m_1371 m_89 m_1372 rfl rfl hd_X12_in_v ⟨Nat.le_of_ble_eq_true rfl, Nat.le_of_ble_eq_true rfl⟩) (sR hPc hKc) rfl rfl hl.1 rfl (lv_room (Nat.le_of_ble_eq_true rfl)) dX12_noPaper_10 ⟨Nat.le_of_ble_eq_true rfl, Nat.le_of_ble_eq_true rfl⟩) (fun r2 hr2 => ?_)
  rcases hr2 with ⟨rfl, fr2⟩ | ⟨rfl, fr2⟩
  · exfalso; omega
  · skip
    refine lv_if_ne (tgt := 20) hx hb dX12_noPaper_13 (by decide) (fun c3 => ?_) (fun c3 => ?_)
    · exact absurd rfl c3
    · skip
      refine lv_iconst (v := 1) hx hb dX12_noPaper_16 (by decide) ?_
      refine lv_goto (tgt := 21) hx hb dX12_noPaper_17 (by decide) ?_
      exact W.zret (v := 1) hx hb hr rfl (fun t ht9 hW => ⟨1, rfl, rfl, ht9⟩) (fun q hq => by cases hq) dX12_noPaper_21
set_option maxHeartbeats 4000000 in
set_option maxRecDepth 100000 in
/-- X12_errorOf -/
theorem c_X12_errorOf (l : Launch) (dC : Nat → ClassId) (dI : Nat → Nat → Nat) (h : Nat) (g : Nat → Nat → Nat) (ca : Nat → Nat → ClassId) (a : Int32) (b : Int32) (d : Int32) : Met l yX12_errorOf (wc yX12_errorOf cX12_errorOf 8 (some .int)) ({ frames := 0, cells := 0, slots := 0, locals := 0 } : Room) (pR (dC, dI) classes [(h, .inr (12, (o12 h g)))] [] [.ref h, .int a, .int b, .int d]) (vp_Si (fun r => r = 0)) 0 0 (fun _ => False) := by
  refine Met.ofW (cc := cX12_errorOf) (maxL := 8) (ret := (some .int)) (by decide) rfl ?_
  intro p e s m args below meth c s₁ B hml hv
  obtain ⟨rfl, hP, hK⟩ := hv
  have hx := B.exec
  have hb := B.bytes
  have hr := B.returns
  have ht := tb_tl (atoms_spec (ws := wc yX12_errorOf cX12_errorOf 8 (some .int)) B.pre)
  have hown : s.vm.findClass RX12 = some m.cls := findClass_of_methodNamed B.named
  have hlocks := B.notSynchronized
  have hl := lv_entry [.ref h, .int a, .int b, .int d] (n := 8) (Nat.le_of_ble_eq_true rfl)
  rw [lg_entry_eq]
  generalize (lg_sl [.ref h, .int a, .int b, .int d] ++ List.replicate (8 - (lg_sl [.ref h, .int a, .int b, .int d]).length) Slot.unset).toArray = ls at hl ⊢
  have hl : lv_has ls 8 [(0, .ref h), (1, .int a), (2, .int b), (3, .int d)] := hl
  refine lv_iconst (v := (-1)) hx hb dX12_errorOf_0 (by decide) ?_
  refine lv_istore (lv' := [(4, .int (-1)), (0, .ref h), (1, .int a), (2, .int b), (3, .int d)]) hx hb dX12_errorOf_1 hl (by decide) rfl (fun ls hl => ?_)
  refine lv_iconst (v := (-1)) hx hb dX12_errorOf_3 (by decide) ?_
  refine lv_istore (lv' := [(5, .int (-1)), (4, .int (-1)), (0, .ref h), (1, .int a), (2, .int b), (3, .int d)]) hx hb dX12_errorOf_4 hl (by decide) rfl (fun ls hl => ?_)
  refine lv_iconst (v := 0) hx hb dX12_errorOf_6 (by decide) ?_
  refine lv_istore (lv' := [(6, .int 0), (5, .int (-1)), (4, .int (-1)), (0, .ref h), (1, .int a), (2, .int b), (3, .int d)]) hx hb dX12_errorOf_7 hl (by decide) rfl (fun ls hl => ?_)
  refine lv_iload hx hb dX12_errorOf_9 (lv_at hl 0 rfl) ?_
  refine lv_aload_n hx hb dX12_errorOf_11 rfl (lv_at hl 3 rfl) ?_
  refine va_get (D := (dC, dI)) (ci := 12) (v := .int 0) (C := RX12) (T := TX12) (N := 75) hx hb ht inX12 hown hK hP 0 rfl rfl 13 (by decide) (ht _ m_1152) (fun _ h9 => h9) rfl dX12_errorOf_12 ?_
  refine lv_icmp_ge (tgt := 80) hx hb dX12_errorOf_15 (by decide) (fun c1 => ?_) (fun c1 => ?_)
  · skip
    refine lv_iload hx hb dX12_errorOf_80 (lv_at hl 2 rfl) ?_
    refine lv_if_ge (tgt := 92) hx hb dX12_errorOf_82 (by decide) (fun c2 => ?_) (fun c2 => ?_)
    · exact absurd c2 (by decide)
    · skip
      refine lv_iload hx hb dX12_errorOf_85 (lv_at hl 1 rfl) ?_
      refine lv_if_ge (tgt := 92) hx hb dX12_errorOf_87 (by decide) (fun c3 => ?_) (fun c3 => ?_)
      · exact absurd c3 (by decide)
      · skip
        refine lv_iconst (v := 0) hx hb dX12_errorOf_90 (by decide) ?_
        exact W.iret (v := 0) hx hb hr (fun t ht9 hW => ⟨0, rfl, rfl, ht9⟩) (fun q hq => by cases hq) dX12_errorOf_91
  · exact absurd c1 (by decide)
set_option maxHeartbeats 4000000 in
set_option maxRecDepth 100000 in
/-- X12_power -/
theorem c_X12_power (l : Launch) (dC : Nat → ClassId) (dI : Nat → Nat → Nat) (a : Int32) : Met l yX12_power (wc yX12_power cX12_power 4 (some .int)) ({ frames := 0, cells := 0, slots := 0, locals := 0 } : Room) (pR (dC, dI) classes [] [] [.int a, .int 0]) (vp_Si (fun r => r = 1)) 0 0 (fun _ => False) := by
  refine Met.ofW (cc := cX12_power) (maxL := 4) (ret := (some .int)) (by decide) rfl ?_
  intro p e s m args below meth c s₁ B hml hv
  obtain ⟨rfl, hP, hK⟩ := hv
  have hx := B.exec
  have hb := B.bytes
  have hr := B.returns
  have ht := tb_tl (atoms_spec (ws := wc yX12_power cX12_power 4 (some .int)) B.pre)
  have hown : s.vm.findClass RX12 = some m.cls := findClass_of_methodNamed B.named
  have hlocks := B.notSynchronized
  have hl := lv_entry [.int a, .int 0] (n := 4) (Nat.le_of_ble_eq_true rfl)
  rw [lg_entry_eq]
  generalize (lg_sl [.int a, .int 0] ++ List.replicate (4 - (lg_sl [.int a, .int 0]).length) Slot.unset).toArray = ls at hl ⊢
  have hl : lv_has ls 4 [(0, .int a), (1, .int 0)] := hl
  refine lv_iconst (v := 1) hx hb dX12_power_0 (by decide) ?_
  refine lv_istore_n (lv' := [(2, .int 1), (0, .int a), (1, .int 0)]) hx hb dX12_power_1 rfl hl (by decide) rfl (fun ls hl => ?_)
  refine lv_iconst (v := 0) hx hb dX12_power_2 (by decide) ?_
  refine lv_istore_n (lv' := [(3, .int 0), (2, .int 1), (0, .int a), (1, .int 0)]) hx hb dX12_power_3 rfl hl (by decide) rfl (fun ls hl => ?_)
  refine lv_iload_n hx hb dX12_power_4 rfl (lv_at hl 0 rfl) ?_
  refine lv_iload_n hx hb dX12_power_5 rfl (lv_at hl 3 rfl) ?_
  refine lv_icmp_ge (tgt := 19) hx hb dX12_power_6 (by decide) (fun c1 => ?_) (fun c1 => ?_)
  · skip
    refine lv_iload_n hx hb dX12_power_19 rfl (lv_at hl 1 rfl) ?_
    exact W.iret (v := 1) hx hb hr (fun t ht9 hW => ⟨1, rfl, rfl, ht9⟩) (fun q hq => by cases hq) dX12_power_20
  · exact absurd c1 (by decide)
set_option maxHeartbeats 4000000 in
set_option maxRecDepth 100000 in
/-- X12_atFirst -/
theorem c_X12_atFirst (l : Launch) (dC : Nat → ClassId) (dI : Nat → Nat → Nat) (a : Int32) : Met l yX12_atFirst (wc yX12_atFirst cX12_atFirst 1 (some .int)) ({ frames := 0, cells := 0, slots := 0, locals := 0 } : Room) (pR (dC, dI) classes [] [] [.int a]) (vp_Si (fun r => r = F_atF a)) 0 0 (fun _ => False) := by
  refine Met.ofW (cc := cX12_atFirst) (maxL := 1) (ret := (some .int)) (by decide) rfl ?_
  intro p e s m args below meth c s₁ B hml hv
  obtain ⟨rfl, hP, hK⟩ := hv
  have hx := B.exec
  have hb := B.bytes
  have hr := B.returns
  have ht := tb_tl (atoms_spec (ws := wc yX12_atFirst cX12_atFirst 1 (some .int)) B.pre)
  have hown : s.vm.findClass RX12 = some m.cls := findClass_of_methodNamed B.named
  have hlocks := B.notSynchronized
  have hl := lv_entry [.int a] (n := 1) (Nat.le_of_ble_eq_true rfl)
  rw [lg_entry_eq]
  generalize (lg_sl [.int a] ++ List.replicate (1 - (lg_sl [.int a]).length) Slot.unset).toArray = ls at hl ⊢
  have hl : lv_has ls 1 [(0, .int a)] := hl
  refine lv_iload_n hx hb dX12_atFirst_0 rfl (lv_at hl 0 rfl) ?_
  rcases sw_0_4 a with h1 | rfl | rfl | rfl | rfl | rfl
  · refine lv_tableOut (tgt := 48) hx hb dX12_atFirst_1 h1 (by decide) ?_
    refine lv_iconst (v := 0) hx hb dX12_atFirst_48 (by decide) ?_
    exact W.iret (v := 0) hx hb hr (fun t ht9 hW => ⟨0, rfl, (by unfold F_atF; first | decide | ((repeat' split) <;> first | rfl | (exfalso; omega) | exact z_of (by decide) (by omega))), ht9⟩) (fun q hq => by cases hq) dX12_atFirst_49
  · refine lv_tableIn (tgt := 36) (off := 35) hx hb dX12_atFirst_1 (by decide) (by decide) rfl (by decide) ?_
    refine lv_bipush (v := 110) hx hb dX12_atFirst_36 (by decide) ?_
    exact W.iret (v := 110) hx hb hr (fun t ht9 hW => ⟨110, rfl, (by unfold F_atF; first | decide | ((repeat' split) <;> first | rfl | (exfalso; omega) | exact z_of (by decide) (by omega))), ht9⟩) (fun q hq => by cases hq) dX12_atFirst_38
  · refine lv_tableIn (tgt := 39) (off := 38) hx hb dX12_atFirst_1 (by decide) (by decide) rfl (by decide) ?_
    refine lv_iconst (v := 3) hx hb dX12_atFirst_39 (by decide) ?_
    exact W.iret (v := 3) hx hb hr (fun t ht9 hW => ⟨3, rfl, (by unfold F_atF; first | decide | ((repeat' split) <;> first | rfl | (exfalso; omega) | exact z_of (by decide) (by omega))), ht9⟩) (fun q hq => by cases hq) dX12_atFirst_40
  · refine lv_tableIn (tgt := 41) (off := 40) hx hb dX12_atFirst_1 (by decide) (by decide) rfl (by decide) ?_
    refine lv_iconst (v := 5) hx hb dX12_atFirst_41 (by decide) ?_
    exact W.iret (v := 5) hx hb hr (fun t ht9 hW => ⟨5, rfl, (by unfold F_atF; first | decide | ((repeat' split) <;> first | rfl | (exfalso; omega) | exact z_of (by decide) (by omega))), ht9⟩) (fun q hq => by cases hq) dX12_atFirst_42
  · refine lv_tableIn (tgt := 43) (off := 42) hx hb dX12_atFirst_1 (by decide) (by decide) rfl (by decide) ?_
    refine lv_iconst (v := 2) hx hb dX12_atFirst_43 (by decide) ?_
    exact W.iret (v := 2) hx hb hr (fun t ht9 hW => ⟨2, rfl, (by unfold F_atF; first | decide | ((repeat' split) <;> first | rfl | (exfalso; omega) | exact z_of (by decide) (by omega))), ht9⟩) (fun q hq => by cases hq) dX12_atFirst_44
  · refine lv_tableIn (tgt := 45) (off := 44) hx hb dX12_atFirst_1 (by decide) (by decide) rfl (by decide) ?_
    refine lv_bipush (v := 10) hx hb dX12_atFirst_45 (by decide) ?_
    exact W.iret (v := 10) hx hb hr (fun t ht9 hW => ⟨10, rfl, (by unfold F_atF; first | decide | ((repeat' split) <;> first | rfl | (exfalso; omega) | exact z_of (by decide) (by omega))), ht9⟩) (fun q hq => by cases hq) dX12_atFirst_47
