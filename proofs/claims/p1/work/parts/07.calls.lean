set_option maxHeartbeats 4000000 in
set_option maxRecDepth 100000 in
/-- X5_place -/
theorem c_X5_place (l : Launch) (dC : Nat → ClassId) (dI : Nat → Nat → Nat) (sz : Nat) (h : Nat) (g : Nat → Nat → Nat) (ca : Nat → Nat → ClassId) (m_ : Int32) : Met l yX5_place (wc yX5_place cX5_place 5 none) ({ frames := 1, cells := 0, slots := 0, locals := 60 } : Room) (pW (dC, dI) classes [((g 11 7), .inr (5, ((o5 h g).set 5 (.int 1000000)))), ((g 5 1), .inl ((ca 5 1), 8, .inl (fun _ => 0))), ((g 5 3), .inl ((ca 5 3), 8, .inl (fun _ => 0)))] [((ca 5 1), .int), ((ca 5 3), .int)] sz [.ref (g 11 7), .int 0, .int m_, .int 0]) (va_Qv (fun _ : Unit => True) (fun _ t => va_P (dC, dI) classes [((g 11 7), .inr (5, (o5 h g)))] t.heap ∧ va_D (va_A [((g 11 7), .inr (5, ((o5 h g).set 5 (.int 1000000)))), ((g 5 1), .inl ((ca 5 1), 8, .inl (fun _ => 0))), ((g 5 3), .inl ((ca 5 3), 8, .inl (fun _ => 0)))] sz) [((g 11 7), .inr (5, (o5 h g)))]) (va_A [((g 11 7), .inr (5, ((o5 h g).set 5 (.int 1000000)))), ((g 5 1), .inl ((ca 5 1), 8, .inl (fun _ => 0))), ((g 5 3), .inl ((ca 5 3), 8, .inl (fun _ => 0)))] sz)) 0 0 (va_A [((g 11 7), .inr (5, ((o5 h g).set 5 (.int 1000000)))), ((g 5 1), .inl ((ca 5 1), 8, .inl (fun _ => 0))), ((g 5 3), .inl ((ca 5 3), 8, .inl (fun _ => 0)))] sz) := by
  refine Met.ofW (cc := cX5_place) (maxL := 5) (ret := none) (by decide) rfl ?_
  intro p e s m args below meth c s₁ B hml hv
  obtain ⟨rfl, hsz, hP, hK, hD0⟩ := hv
  have hx := B.exec
  have hb := B.bytes
  have hr := B.returns
  have ht := tb_tl (atoms_spec (ws := wc yX5_place cX5_place 5 none) B.pre)
  have hown : s.vm.findClass RX5 = some m.cls := findClass_of_methodNamed B.named
  have hlocks := B.notSynchronized
  subst hsz
  have hD := hD0.self (sz := s.heap.size)
  generalize hAe : va_A [((g 11 7), .inr (5, ((o5 h g).set 5 (.int 1000000)))), ((g 5 1), .inl ((ca 5 1), 8, .inl (fun _ => 0))), ((g 5 3), .inl ((ca 5 3), 8, .inl (fun _ => 0)))] s.heap.size = A at hD ⊢
  have hA : ∀ q : Nat, s.heap.size ≤ q → A q := fun q h => by rw [← hAe]; exact Or.inr h
  have hS : va_S A s.heap s.heap [] := va_S.rf
  have hP : va_P (dC, dI) classes [((g 11 7), .inr (5, ((o5 h g).set 5 (.int 1000000)))), ((g 5 1), .inl ((ca 5 1), 8, .inl (fun _ => 0))), ((g 5 3), .inl ((ca 5 3), 8, .inl (fun _ => 0)))] s.heap := hP
  have hl := lv_entry [.ref (g 11 7), .int 0, .int m_, .int 0] (n := 5) (Nat.le_of_ble_eq_true rfl)
  rw [lg_entry_eq]
  generalize (lg_sl [.ref (g 11 7), .int 0, .int m_, .int 0] ++ List.replicate (5 - (lg_sl [.ref (g 11 7), .int 0, .int m_, .int 0]).length) Slot.unset).toArray = ls at hl ⊢
  have hl : lv_has ls 5 [(0, .ref (g 11 7)), (1, .int 0), (2, .int m_), (3, .int 0)] := hl
  refine lv_iload_n hx hb dX5_place_0 rfl (lv_at hl 3 rfl) ?_
  refine lv_aload_n hx hb dX5_place_1 rfl (lv_at hl 0 rfl) ?_
  refine va_get (D := (dC, dI)) (ci := 5) (v := .int 1000000) (C := RX5) (T := TX5) (N := 7) hx hb ht inX5 hown hK hP 0 rfl rfl 5 (by decide) (ht _ m_342) (fun _ h9 => h9) rfl dX5_place_2 ?_
  refine lv_icmp_lt (tgt := 9) hx hb dX5_place_5 (by decide) (fun c1 => ?_) (fun c1 => ?_)
  · skip
    refine lv_iload_n hx hb dX5_place_9 rfl (lv_at hl 1 rfl) ?_
    refine lv_aload_n hx hb dX5_place_10 rfl (lv_at hl 0 rfl) ?_
    refine va_get (D := (dC, dI)) (ci := 5) (v := .int 0) (C := RX5) (T := TX5) (N := 7) hx hb ht inX5 hown hK hP 0 rfl rfl 4 (by decide) (ht _ m_340) (fun _ h9 => h9) rfl dX5_place_11 ?_
    refine lv_icmp_lt (tgt := 40) hx hb dX5_place_14 (by decide) (fun c2 => ?_) (fun c2 => ?_)
    · exact absurd c2 (by decide)
    · skip
      refine lv_aload_n hx hb dX5_place_17 rfl (lv_at hl 0 rfl) ?_
      refine lv_iload_n hx hb dX5_place_18 rfl (lv_at hl 3 rfl) ?_
      refine va_put (D := (dC, dI)) (ci := 5) (v := .int 0) (ty := (.int)) (C := RX5) (T := TX5) (N := 7) hx hb ht inX5 tyX5 tyX5_ok nmX5 hown hK hP hD hS 0 rfl rfl 5 (by decide) (ht _ m_342) (fun _ h9 => h9) rfl (by decide +kernel) rfl rfl (Nat.le_of_ble_eq_true rfl) dX5_place_19 (fun H locs hP hD hS => ?_)
      have hP : va_P (dC, dI) classes [((g 11 7), .inr (5, (o5 h g))), ((g 5 1), .inl ((ca 5 1), 8, .inl (fun _ => 0))), ((g 5 3), .inl ((ca 5 3), 8, .inl (fun _ => 0)))] H := hP
      have hD : va_D A [((g 11 7), .inr (5, (o5 h g))), ((g 5 1), .inl ((ca 5 1), 8, .inl (fun _ => 0))), ((g 5 3), .inl ((ca 5 3), 8, .inl (fun _ => 0)))] := hD
      refine lv_aload_n hx hb dX5_place_22 rfl (lv_at hl 0 rfl) ?_
      refine va_get (D := (dC, dI)) (ci := 5) (v := .ref (g 5 1)) (C := RX5) (T := TX5) (N := 7) hx hb ht inX5 hown hK hP 0 rfl rfl 1 (by decide) (ht _ m_336) (fun _ h9 => h9) rfl dX5_place_23 ?_
      refine lv_iconst (v := 0) hx hb dX5_place_26 (by decide) ?_
      refine lv_aload_n hx hb dX5_place_27 rfl (lv_at hl 0 rfl) ?_
      refine va_get (D := (dC, dI)) (ci := 5) (v := .ref (g 5 3)) (C := RX5) (T := TX5) (N := 7) hx hb ht inX5 hown hK hP 0 rfl rfl 3 (by decide) (ht _ m_338) (fun _ h9 => h9) rfl dX5_place_28 ?_
      refine lv_iconst (v := 0) hx hb dX5_place_31 (by decide) ?_
      refine lv_aload_n hx hb dX5_place_32 rfl (lv_at hl 0 rfl) ?_
      refine va_get (D := (dC, dI)) (ci := 5) (v := .int 0) (C := RX5) (T := TX5) (N := 7) hx hb ht inX5 hown hK hP 0 rfl rfl 4 (by decide) (ht _ m_340) (fun _ h9 => h9) rfl dX5_place_33 ?_
      refine va_copyi (D := (dC, dI)) (ty := .int) hx hb (hml.trans hl.1.symm) hown (ht _ m_1022) (ht _ m_1024) (ht _ m_1023) (ht _ m_95) hK hP hD hS 1 2 0 1 rfl rfl rfl rfl rfl (by decide) (by decide) (by decide) (by decide) (by decide) (fun i hi => rfl) (Nat.le_of_ble_eq_true rfl) (by rw [nfw]; exact Nat.le_of_ble_eq_true rfl) dX5_place_36 (fun H locs hP hD hS => ?_)
      obtain ⟨f3, hP, hD⟩ : ∃ f3 : Nat → Int32, va_P (dC, dI) classes [((g 11 7), .inr (5, (o5 h g))), ((g 5 1), .inl ((ca 5 1), 8, .inl (fun _ => 0))), ((g 5 3), .inl ((ca 5 3), 8, .inl f3))] H ∧ va_D A [((g 11 7), .inr (5, (o5 h g))), ((g 5 1), .inl ((ca 5 1), 8, .inl (fun _ => 0))), ((g 5 3), .inl ((ca 5 3), 8, .inl f3))] := ⟨_, hP, hD⟩
      have hP9 := hP.sub (ws' := [((g 11 7), .inr (5, (o5 h g)))]) [0] rfl
      have hD9 := hD.sub (ws' := [((g 11 7), .inr (5, (o5 h g)))]) [0] (by decide) rfl
      exact W.vret hx hb hr (fun t ht9 hW => ⟨⟨(), rfl, trivial, by rw [ht9]; exact hP9, hD9⟩, hS.F ht9⟩) hS.2.2 dX5_place_39
  · exact absurd c1 (by decide)
set_option maxHeartbeats 4000000 in
set_option maxRecDepth 100000 in
/-- X5_arrange -/
theorem c_X5_arrange (l : Launch) (dC : Nat → ClassId) (dI : Nat → Nat → Nat) (sz : Nat) (h : Nat) (g : Nat → Nat → Nat) (ca : Nat → Nat → ClassId) (m_ : Int32) (h_m_ : 1 ≤ m_.toInt ∧ m_.toInt ≤ 3) : Met l yX5_arrange (wc yX5_arrange cX5_arrange 2 none) ({ frames := 2, cells := 0, slots := 0, locals := 84 } : Room) (pW (dC, dI) classes [((g 11 7), .inr (5, (o5 h g))), ((g 5 1), .inl ((ca 5 1), 8, .inl (fun _ => 0))), ((g 5 3), .inl ((ca 5 3), 8, .inl (fun _ => 0)))] [((ca 5 1), .int), ((ca 5 3), .int)] sz [.ref (g 11 7), .int m_]) (va_Qv (fun _ : Unit => True) (fun _ t => va_P (dC, dI) classes [((g 11 7), .inr (5, ((o5 h g).set 6 (.int m_))))] t.heap ∧ va_D (va_A [((g 11 7), .inr (5, (o5 h g))), ((g 5 1), .inl ((ca 5 1), 8, .inl (fun _ => 0))), ((g 5 3), .inl ((ca 5 3), 8, .inl (fun _ => 0)))] sz) [((g 11 7), .inr (5, ((o5 h g).set 6 (.int m_))))]) (va_A [((g 11 7), .inr (5, (o5 h g))), ((g 5 1), .inl ((ca 5 1), 8, .inl (fun _ => 0))), ((g 5 3), .inl ((ca 5 3), 8, .inl (fun _ => 0)))] sz)) 0 0 (va_A [((g 11 7), .inr (5, (o5 h g))), ((g 5 1), .inl ((ca 5 1), 8, .inl (fun _ => 0))), ((g 5 3), .inl ((ca 5 3), 8, .inl (fun _ => 0)))] sz) := by
  refine Met.ofW (cc := cX5_arrange) (maxL := 2) (ret := none) (by decide) rfl ?_
  intro p e s m args below meth c s₁ B hml hv
  obtain ⟨rfl, hsz, hP, hK, hD0⟩ := hv
  have hx := B.exec
  have hb := B.bytes
  have hr := B.returns
  have ht := tb_tl (atoms_spec (ws := wc yX5_arrange cX5_arrange 2 none) B.pre)
  have hown : s.vm.findClass RX5 = some m.cls := findClass_of_methodNamed B.named
  have hlocks := B.notSynchronized
  subst hsz
  have hD := hD0.self (sz := s.heap.size)
  generalize hAe : va_A [((g 11 7), .inr (5, (o5 h g))), ((g 5 1), .inl ((ca 5 1), 8, .inl (fun _ => 0))), ((g 5 3), .inl ((ca 5 3), 8, .inl (fun _ => 0)))] s.heap.size = A at hD ⊢
  have hA : ∀ q : Nat, s.heap.size ≤ q → A q := fun q h => by rw [← hAe]; exact Or.inr h
  have hS : va_S A s.heap s.heap [] := va_S.rf
  have hP : va_P (dC, dI) classes [((g 11 7), .inr (5, (o5 h g))), ((g 5 1), .inl ((ca 5 1), 8, .inl (fun _ => 0))), ((g 5 3), .inl ((ca 5 3), 8, .inl (fun _ => 0)))] s.heap := hP
  have hl := lv_entry [.ref (g 11 7), .int m_] (n := 2) (Nat.le_of_ble_eq_true rfl)
  rw [lg_entry_eq]
  generalize (lg_sl [.ref (g 11 7), .int m_] ++ List.replicate (2 - (lg_sl [.ref (g 11 7), .int m_]).length) Slot.unset).toArray = ls at hl ⊢
  have hl : lv_has ls 2 [(0, .ref (g 11 7)), (1, .int m_)] := hl
  refine lv_iload_n hx hb dX5_arrange_0 rfl (lv_at hl 1 rfl) ?_
  refine lv_aload_n hx hb dX5_arrange_1 rfl (lv_at hl 0 rfl) ?_
  refine va_get (D := (dC, dI)) (ci := 5) (v := .int 0) (C := RX5) (T := TX5) (N := 7) hx hb ht inX5 hown hK hP 0 rfl rfl 6 (by decide) (ht _ m_344) (fun _ h9 => h9) rfl dX5_arrange_2 ?_
  refine lv_icmp_ne (tgt := 9) hx hb dX5_arrange_5 (by decide) (fun c1 => ?_) (fun c1 => ?_)
  · skip
    refine lv_aload_n hx hb dX5_arrange_9 rfl (lv_at hl 0 rfl) ?_
    refine lv_ldc hx hb hown (ht _ m_1017) dX5_arrange_10 ?_
    refine va_put (D := (dC, dI)) (ci := 5) (v := .int 1000000) (ty := (.int)) (C := RX5) (T := TX5) (N := 7) hx hb ht inX5 tyX5 tyX5_ok nmX5 hown hK hP hD hS 0 rfl rfl 5 (by decide) (ht _ m_342) (fun _ h9 => h9) rfl (by decide +kernel) rfl rfl (Nat.le_of_ble_eq_true rfl) dX5_arrange_12 (fun H locs hP hD hS => ?_)
    have hP : va_P (dC, dI) classes [((g 11 7), .inr (5, ((o5 h g).set 5 (.int 1000000)))), ((g 5 1), .inl ((ca 5 1), 8, .inl (fun _ => 0))), ((g 5 3), .inl ((ca 5 3), 8, .inl (fun _ => 0)))] H := hP
    have hD : va_D A [((g 11 7), .inr (5, ((o5 h g).set 5 (.int 1000000)))), ((g 5 1), .inl ((ca 5 1), 8, .inl (fun _ => 0))), ((g 5 3), .inl ((ca 5 3), 8, .inl (fun _ => 0)))] := hD
    refine lv_aload_n hx hb dX5_arrange_15 rfl (lv_at hl 0 rfl) ?_
    refine lv_iconst (v := 0) hx hb dX5_arrange_16 (by decide) ?_
    refine lv_iload_n hx hb dX5_arrange_17 rfl (lv_at hl 1 rfl) ?_
    refine lv_iconst (v := 0) hx hb dX5_arrange_18 (by decide) ?_
    have hPc := hP.sub (ws' := [((g 11 7), .inr (5, ((o5 h g).set 5 (.int 1000000)))), ((g 5 1), .inl ((ca 5 1), 8, .inl (fun _ => 0))), ((g 5 3), .inl ((ca 5 3), 8, .inl (fun _ => 0)))]) [0, 1, 2] rfl
    have hKc := hK.sub (tys' := [((ca 5 1), .int), ((ca 5 3), .int)]) [0, 1] rfl
    have hDc := hD.sub (ws' := [((g 11 7), .inr (5, ((o5 h g).set 5 (.int 1000000)))), ((g 5 1), .inl ((ca 5 1), 8, .inl (fun _ => 0))), ((g 5 3), .inl ((ca 5 3), 8, .inl (fun _ => 0)))]) [0, 1, 2] (by decide) rfl
    have hFc := va_free (wc := [((g 11 7), .inr (5, ((o5 h g).set 5 (.int 1000000)))), ((g 5 1), .inl ((ca 5 1), 8, .inl (fun _ => 0))), ((g 5 3), .inl ((ca 5 3), 8, .inl (fun _ => 0)))]) hD hS hA [0, 1, 2] rfl
    refine va_callv (va_runV (As := [.int 0, .int m_, .int 0]) (rest := []) ⟨hx, hb, hml, hown, ht⟩ (c_X5_place l dC dI H.size h g ca m_) (kV 3 ht m_1018 m_1020 m_41 m_86 m_1021 rfl rfl hd_X5_place_v ⟨Nat.le_of_ble_eq_true rfl, Nat.le_of_ble_eq_true rfl⟩) (vW hPc hKc hDc (va_recv hKc hPc (ci := 5) (q0 := 0) rfl rfl)) rfl rfl hl.1 rfl (lv_room (Nat.le_of_ble_eq_true rfl)) dX5_arrange_19 ⟨Nat.le_of_ble_eq_true rfl, Nat.le_of_ble_eq_true rfl⟩) hS (fun q _ h => hFc q h) hFc (fun u t H1 locs ht9 hvm hw hB hz1 hk1 hS => ?_)
    obtain ⟨hP1, hD1⟩ := hB
    rw [ht9] at hP1
    obtain ⟨hP, hD⟩ := va_join (wr := []) (w1 := [((g 11 7), .inr (5, (o5 h g)))]) hP hD [0, 1, 2] [] rfl rfl (by decide) (by decide) hk1 hFc hP1 hD1
    generalize H1 = H at hP hS ⊢
    have hP : va_P (dC, dI) classes [((g 11 7), .inr (5, (o5 h g)))] H := hP
    have hD : va_D A [((g 11 7), .inr (5, (o5 h g)))] := hD
    refine lv_aload_n hx hb dX5_arrange_22 rfl (lv_at hl 0 rfl) ?_
    refine lv_iload_n hx hb dX5_arrange_23 rfl (lv_at hl 1 rfl) ?_
    refine va_put (D := (dC, dI)) (ci := 5) (v := .int m_) (ty := (.int)) (C := RX5) (T := TX5) (N := 7) hx hb ht inX5 tyX5 tyX5_ok nmX5 hown hK hP hD hS 0 rfl rfl 6 (by decide) (ht _ m_344) (fun _ h9 => h9) rfl (by decide +kernel) rfl rfl (Nat.le_of_ble_eq_true rfl) dX5_arrange_24 (fun H locs hP hD hS => ?_)
    have hP : va_P (dC, dI) classes [((g 11 7), .inr (5, ((o5 h g).set 6 (.int m_))))] H := hP
    have hD : va_D A [((g 11 7), .inr (5, ((o5 h g).set 6 (.int m_))))] := hD
    have hP9 := hP.sub (ws' := [((g 11 7), .inr (5, ((o5 h g).set 6 (.int m_))))]) [0] rfl
    have hD9 := hD.sub (ws' := [((g 11 7), .inr (5, ((o5 h g).set 6 (.int m_))))]) [0] (by decide) rfl
    exact W.vret hx hb hr (fun t ht9 hW => ⟨⟨(), rfl, trivial, by rw [ht9]; exact hP9, hD9⟩, hS.F ht9⟩) hS.2.2 dX5_arrange_27
  · have fc1 := z_eq (rfl : (m_).toInt = _) (by decide : (0 : Int32).toInt = 0) c1; exfalso; omega
set_option maxHeartbeats 4000000 in
set_option maxRecDepth 100000 in
/-- X4_compare -/
theorem c_X4_compare (l : Launch) (dC : Nat → ClassId) (dI : Nat → Nat → Nat) (sz : Nat) (h : Nat) (g : Nat → Nat → Nat) (ca : Nat → Nat → ClassId) (a : Int32) (b : Int32) : Met l yX4_compare (wc yX4_compare cX4_compare 3 (some .int)) ({ frames := 0, cells := 0, slots := 0, locals := 0 } : Room) (pW (dC, dI) classes [((g 11 8), .inr (4, (o4 h g))), ((g 4 0), .inl ((ca 4 0), 8, .inl (fun _ => 0))), ((g 4 1), .inl ((ca 4 1), 8, .inl (fun _ => 0)))] [((ca 4 0), .int), ((ca 4 1), .int)] sz [.ref (g 11 8), .int a, .int b]) (va_Qi (fun r (_ : Unit) => r = 1) (fun _ _ => True) (va_A [((g 11 8), .inr (4, (o4 h g))), ((g 4 0), .inl ((ca 4 0), 8, .inl (fun _ => 0))), ((g 4 1), .inl ((ca 4 1), 8, .inl (fun _ => 0)))] sz)) 0 0 (va_A [((g 11 8), .inr (4, (o4 h g))), ((g 4 0), .inl ((ca 4 0), 8, .inl (fun _ => 0))), ((g 4 1), .inl ((ca 4 1), 8, .inl (fun _ => 0)))] sz) := by
  refine Met.ofW (cc := cX4_compare) (maxL := 3) (ret := (some .int)) (by decide) rfl ?_
  intro p e s m args below meth c s₁ B hml hv
  obtain ⟨rfl, hsz, hP, hK, hD0⟩ := hv
  have hx := B.exec
  have hb := B.bytes
  have hr := B.returns
  have ht := tb_tl (atoms_spec (ws := wc yX4_compare cX4_compare 3 (some .int)) B.pre)
  have hown : s.vm.findClass RX4 = some m.cls := findClass_of_methodNamed B.named
  have hlocks := B.notSynchronized
  subst hsz
  have hD := hD0.self (sz := s.heap.size)
  generalize hAe : va_A [((g 11 8), .inr (4, (o4 h g))), ((g 4 0), .inl ((ca 4 0), 8, .inl (fun _ => 0))), ((g 4 1), .inl ((ca 4 1), 8, .inl (fun _ => 0)))] s.heap.size = A at hD ⊢
  have hA : ∀ q : Nat, s.heap.size ≤ q → A q := fun q h => by rw [← hAe]; exact Or.inr h
  have hS : va_S A s.heap s.heap [] := va_S.rf
  have hP : va_P (dC, dI) classes [((g 11 8), .inr (4, (o4 h g))), ((g 4 0), .inl ((ca 4 0), 8, .inl (fun _ => 0))), ((g 4 1), .inl ((ca 4 1), 8, .inl (fun _ => 0)))] s.heap := hP
  have hl := lv_entry [.ref (g 11 8), .int a, .int b] (n := 3) (Nat.le_of_ble_eq_true rfl)
  rw [lg_entry_eq]
  generalize (lg_sl [.ref (g 11 8), .int a, .int b] ++ List.replicate (3 - (lg_sl [.ref (g 11 8), .int a, .int b]).length) Slot.unset).toArray = ls at hl ⊢
  have hl : lv_has ls 3 [(0, .ref (g 11 8)), (1, .int a), (2, .int b)] := hl
  refine lv_aload_n hx hb dX4_compare_0 rfl (lv_at hl 0 rfl) ?_
  refine va_get (D := (dC, dI)) (ci := 4) (v := .ref (g 4 0)) (C := RX4) (T := TX4) (N := 3) hx hb ht inX4 hown hK hP 0 rfl rfl 0 (by decide) (ht _ m_366) (fun _ h9 => h9) rfl dX4_compare_1 ?_
  refine lv_aload_n hx hb dX4_compare_4 rfl (lv_at hl 0 rfl) ?_
  refine va_get (D := (dC, dI)) (ci := 4) (v := .int 0) (C := RX4) (T := TX4) (N := 3) hx hb ht inX4 hown hK hP 0 rfl rfl 2 (by decide) (ht _ m_368) (fun _ h9 => h9) rfl dX4_compare_5 ?_
  refine lv_iload_n hx hb dX4_compare_8 rfl (lv_at hl 1 rfl) ?_
  refine va_iast (D := (dC, dI)) hx hb hK hP hD hS 1 0 rfl rfl (vp_in_iff.mpr (by decide)) dX4_compare_9 (fun H locs hP hD hS => ?_)
  obtain ⟨f1, hP, hD⟩ : ∃ f1 : Nat → Int32, va_P (dC, dI) classes [((g 11 8), .inr (4, (o4 h g))), ((g 4 0), .inl ((ca 4 0), 8, .inl f1)), ((g 4 1), .inl ((ca 4 1), 8, .inl (fun _ => 0)))] H ∧ va_D A [((g 11 8), .inr (4, (o4 h g))), ((g 4 0), .inl ((ca 4 0), 8, .inl f1)), ((g 4 1), .inl ((ca 4 1), 8, .inl (fun _ => 0)))] := ⟨_, hP, hD⟩
  refine lv_aload_n hx hb dX4_compare_10 rfl (lv_at hl 0 rfl) ?_
  refine va_get (D := (dC, dI)) (ci := 4) (v := .ref (g 4 1)) (C := RX4) (T := TX4) (N := 3) hx hb ht inX4 hown hK hP 0 rfl rfl 1 (by decide) (ht _ m_367) (fun _ h9 => h9) rfl dX4_compare_11 ?_
  refine lv_aload_n hx hb dX4_compare_14 rfl (lv_at hl 0 rfl) ?_
  refine va_get (D := (dC, dI)) (ci := 4) (v := .int 0) (C := RX4) (T := TX4) (N := 3) hx hb ht inX4 hown hK hP 0 rfl rfl 2 (by decide) (ht _ m_368) (fun _ h9 => h9) rfl dX4_compare_15 ?_
  refine lv_iload_n hx hb dX4_compare_18 rfl (lv_at hl 2 rfl) ?_
  refine va_iast (D := (dC, dI)) hx hb hK hP hD hS 2 1 rfl rfl (vp_in_iff.mpr (by decide)) dX4_compare_19 (fun H locs hP hD hS => ?_)
  obtain ⟨f2, hP, hD⟩ : ∃ f2 : Nat → Int32, va_P (dC, dI) classes [((g 11 8), .inr (4, (o4 h g))), ((g 4 0), .inl ((ca 4 0), 8, .inl f1)), ((g 4 1), .inl ((ca 4 1), 8, .inl f2))] H ∧ va_D A [((g 11 8), .inr (4, (o4 h g))), ((g 4 0), .inl ((ca 4 0), 8, .inl f1)), ((g 4 1), .inl ((ca 4 1), 8, .inl f2))] := ⟨_, hP, hD⟩
  refine lv_aload_n hx hb dX4_compare_20 rfl (lv_at hl 0 rfl) ?_
  refine lv_dup hx hb dX4_compare_21 rfl ?_
  refine va_get (D := (dC, dI)) (ci := 4) (v := .int 0) (C := RX4) (T := TX4) (N := 3) hx hb ht inX4 hown hK hP 0 rfl rfl 2 (by decide) (ht _ m_368) (fun _ h9 => h9) rfl dX4_compare_22 ?_
  refine lv_iconst (v := 1) hx hb dX4_compare_25 (by decide) ?_
  refine lv_iadd hx hb dX4_compare_26 ?_
  refine lv_topi (fun v3 ev3 => ?_)
  obtain rfl : 1 = v3 := (ev3.trans (by decide)).symm
  refine va_put (D := (dC, dI)) (ci := 4) (v := .int 1) (ty := (.int)) (C := RX4) (T := TX4) (N := 3) hx hb ht inX4 tyX4 tyX4_ok nmX4 hown hK hP hD hS 0 rfl rfl 2 (by decide) (ht _ m_368) (fun _ h9 => h9) rfl (by decide +kernel) rfl rfl (Nat.le_of_ble_eq_true rfl) dX4_compare_27 (fun H locs hP hD hS => ?_)
  have hP : va_P (dC, dI) classes [((g 11 8), .inr (4, ((o4 h g).set 2 (.int 1)))), ((g 4 0), .inl ((ca 4 0), 8, .inl f1)), ((g 4 1), .inl ((ca 4 1), 8, .inl f2))] H := hP
  have hD : va_D A [((g 11 8), .inr (4, ((o4 h g).set 2 (.int 1)))), ((g 4 0), .inl ((ca 4 0), 8, .inl f1)), ((g 4 1), .inl ((ca 4 1), 8, .inl f2))] := hD
  refine lv_aload_n hx hb dX4_compare_30 rfl (lv_at hl 0 rfl) ?_
  refine va_get (D := (dC, dI)) (ci := 4) (v := .int 1) (C := RX4) (T := TX4) (N := 3) hx hb ht inX4 hown hK hP 0 rfl rfl 2 (by decide) (ht _ m_368) (fun _ h9 => h9) rfl dX4_compare_31 ?_
  exact W.iret (v := 1) hx hb hr (fun t ht9 hW => ⟨⟨1, (), rfl, rfl, trivial⟩, hS.F ht9⟩) hS.2.2 dX4_compare_34
set_option maxHeartbeats 4000000 in
set_option maxRecDepth 100000 in
/-- X6_standing -/
theorem c_X6_standing (l : Launch) (dC : Nat → ClassId) (dI : Nat → Nat → Nat) (h : Nat) (g : Nat → Nat → Nat) (ca : Nat → Nat → ClassId) (a : Int32) (b : Int32) : Met l yX6_standing (wc yX6_standing cX6_standing 7 (some .long)) ({ frames := 0, cells := 0, slots := 0, locals := 0 } : Room) (pR (dC, dI) classes [((g 11 9), .inr (6, (o6 h g)))] [] [.ref (g 11 9), .int a, .int b]) (vp_Sl (fun r => r = 0)) 0 0 (fun _ => False) := by
  refine Met.ofW (cc := cX6_standing) (maxL := 7) (ret := (some .long)) (by decide) rfl ?_
  intro p e s m args below meth c s₁ B hml hv
  obtain ⟨rfl, hP, hK⟩ := hv
  have hx := B.exec
  have hb := B.bytes
  have hr := B.returns
  have ht := tb_tl (atoms_spec (ws := wc yX6_standing cX6_standing 7 (some .long)) B.pre)
  have hown : s.vm.findClass RX6 = some m.cls := findClass_of_methodNamed B.named
  have hlocks := B.notSynchronized
  have hl := lv_entry [.ref (g 11 9), .int a, .int b] (n := 7) (Nat.le_of_ble_eq_true rfl)
  rw [lg_entry_eq]
  generalize (lg_sl [.ref (g 11 9), .int a, .int b] ++ List.replicate (7 - (lg_sl [.ref (g 11 9), .int a, .int b]).length) Slot.unset).toArray = ls at hl ⊢
  have hl : lv_has ls 7 [(0, .ref (g 11 9)), (1, .int a), (2, .int b)] := hl
  refine lv_lconst (v := 0) hx hb dX6_standing_0 (by decide) ?_
  refine lv_lstore_n (lv' := [(3, .long 0), (0, .ref (g 11 9)), (1, .int a), (2, .int b)]) hx hb dX6_standing_1 rfl hl (by decide) rfl (fun ls hl => ?_)
  refine lv_iconst (v := 0) hx hb dX6_standing_2 (by decide) ?_
  refine lv_istore (lv' := [(5, .int 0), (3, .long 0), (0, .ref (g 11 9)), (1, .int a), (2, .int b)]) hx hb dX6_standing_3 hl (by decide) rfl (fun ls hl => ?_)
  refine lv_iload hx hb dX6_standing_5 (lv_at hl 0 rfl) ?_
  refine lv_aload_n hx hb dX6_standing_7 rfl (lv_at hl 2 rfl) ?_
  refine va_get (D := (dC, dI)) (ci := 6) (v := .int 0) (C := RX6) (T := TX6) (N := 8) hx hb ht inX6 hown hK hP 0 rfl rfl 7 (by decide) (ht _ m_396) (fun _ h9 => h9) rfl dX6_standing_8 ?_
  refine lv_icmp_ge (tgt := 87) hx hb dX6_standing_11 (by decide) (fun c1 => ?_) (fun c1 => ?_)
  · skip
    refine lv_lload_n hx hb dX6_standing_87 rfl (lv_at hl 1 rfl) ?_
    exact W.lret (v := 0) hx hb hr (fun t ht9 hW => ⟨0, rfl, rfl, ht9⟩) (fun q hq => by cases hq) dX6_standing_88
  · exact absurd c1 (by decide)
set_option maxHeartbeats 4000000 in
set_option maxRecDepth 100000 in
/-- X11_balesIn -/
theorem c_X11_balesIn (l : Launch) (dC : Nat → ClassId) (dI : Nat → Nat → Nat) (h : Nat) (g : Nat → Nat → Nat) (ca : Nat → Nat → ClassId) (a : Int32) : Met l yX11_balesIn (wc yX11_balesIn cX11_balesIn 4 (some .int)) ({ frames := 0, cells := 0, slots := 0, locals := 0 } : Room) (pR (dC, dI) classes [(h, .inr (11, (o11 h g))), ((g 11 2), .inr (0, (o0 h g)))] [] [.ref h, .int a]) (vp_Si (fun r => r = 0)) 0 0 (fun _ => False) := by
  refine Met.ofW (cc := cX11_balesIn) (maxL := 4) (ret := (some .int)) (by decide) rfl ?_
  intro p e s m args below meth c s₁ B hml hv
  obtain ⟨rfl, hP, hK⟩ := hv
  have hx := B.exec
  have hb := B.bytes
  have hr := B.returns
  have ht := tb_tl (atoms_spec (ws := wc yX11_balesIn cX11_balesIn 4 (some .int)) B.pre)
  have hown : s.vm.findClass RX11 = some m.cls := findClass_of_methodNamed B.named
  have hlocks := B.notSynchronized
  have hl := lv_entry [.ref h, .int a] (n := 4) (Nat.le_of_ble_eq_true rfl)
  rw [lg_entry_eq]
  generalize (lg_sl [.ref h, .int a] ++ List.replicate (4 - (lg_sl [.ref h, .int a]).length) Slot.unset).toArray = ls at hl ⊢
  have hl : lv_has ls 4 [(0, .ref h), (1, .int a)] := hl
  refine lv_iconst (v := 0) hx hb dX11_balesIn_0 (by decide) ?_
  refine lv_istore_n (lv' := [(2, .int 0), (0, .ref h), (1, .int a)]) hx hb dX11_balesIn_1 rfl hl (by decide) rfl (fun ls hl => ?_)
  refine lv_iconst (v := 0) hx hb dX11_balesIn_2 (by decide) ?_
  refine lv_istore_n (lv' := [(3, .int 0), (2, .int 0), (0, .ref h), (1, .int a)]) hx hb dX11_balesIn_3 rfl hl (by decide) rfl (fun ls hl => ?_)
  refine lv_iload_n hx hb dX11_balesIn_4 rfl (lv_at hl 0 rfl) ?_
  refine lv_aload_n hx hb dX11_balesIn_5 rfl (lv_at hl 2 rfl) ?_
  refine va_get (D := (dC, dI)) (ci := 11) (v := .ref (g 11 2)) (C := RX11) (T := TX11) (N := 11) hx hb ht inX11 hown hK hP 0 rfl rfl 2 (by decide) (ht _ m_417) (fun _ h9 => h9) rfl dX11_balesIn_6 ?_
  refine va_get (D := (dC, dI)) (ci := 0) (v := .int 0) (C := RX0) (T := TX0) (N := 8) hx hb ht inX0 hown hK hP 1 rfl rfl 7 (by decide) (ht _ m_165) (fun _ h9 => h9) rfl dX11_balesIn_9 ?_
  refine lv_icmp_ge (tgt := 40) hx hb dX11_balesIn_12 (by decide) (fun c1 => ?_) (fun c1 => ?_)
  · skip
    refine lv_iload_n hx hb dX11_balesIn_40 rfl (lv_at hl 1 rfl) ?_
    exact W.iret (v := 0) hx hb hr (fun t ht9 hW => ⟨0, rfl, rfl, ht9⟩) (fun q hq => by cases hq) dX11_balesIn_41
  · exact absurd c1 (by decide)
set_option maxHeartbeats 4000000 in
set_option maxRecDepth 100000 in
/-- X11_fees -/
theorem c_X11_fees (l : Launch) (dC : Nat → ClassId) (dI : Nat → Nat → Nat) (h : Nat) (g : Nat → Nat → Nat) (ca : Nat → Nat → ClassId) : Met l yX11_fees (wc yX11_fees cX11_fees 3 (some .int)) ({ frames := 0, cells := 0, slots := 0, locals := 0 } : Room) (pR (dC, dI) classes [(h, .inr (11, (o11 h g))), ((g 11 9), .inr (6, (o6 h g)))] [] [.ref h]) (vp_Si (fun r => r = 0)) 0 0 (fun _ => False) := by
  refine Met.ofW (cc := cX11_fees) (maxL := 3) (ret := (some .int)) (by decide) rfl ?_
  intro p e s m args below meth c s₁ B hml hv
  obtain ⟨rfl, hP, hK⟩ := hv
  have hx := B.exec
  have hb := B.bytes
  have hr := B.returns
  have ht := tb_tl (atoms_spec (ws := wc yX11_fees cX11_fees 3 (some .int)) B.pre)
  have hown : s.vm.findClass RX11 = some m.cls := findClass_of_methodNamed B.named
  have hlocks := B.notSynchronized
  have hl := lv_entry [.ref h] (n := 3) (Nat.le_of_ble_eq_true rfl)
  rw [lg_entry_eq]
  generalize (lg_sl [.ref h] ++ List.replicate (3 - (lg_sl [.ref h]).length) Slot.unset).toArray = ls at hl ⊢
  have hl : lv_has ls 3 [(0, .ref h)] := hl
  refine lv_iconst (v := 0) hx hb dX11_fees_0 (by decide) ?_
  refine lv_istore_n (lv' := [(1, .int 0), (0, .ref h)]) hx hb dX11_fees_1 rfl hl (by decide) rfl (fun ls hl => ?_)
  refine lv_iconst (v := 0) hx hb dX11_fees_2 (by decide) ?_
  refine lv_istore_n (lv' := [(2, .int 0), (1, .int 0), (0, .ref h)]) hx hb dX11_fees_3 rfl hl (by decide) rfl (fun ls hl => ?_)
  refine lv_iload_n hx hb dX11_fees_4 rfl (lv_at hl 0 rfl) ?_
  refine lv_aload_n hx hb dX11_fees_5 rfl (lv_at hl 2 rfl) ?_
  refine va_get (D := (dC, dI)) (ci := 11) (v := .ref (g 11 9)) (C := RX11) (T := TX11) (N := 11) hx hb ht inX11 hown hK hP 0 rfl rfl 9 (by decide) (ht _ m_424) (fun _ h9 => h9) rfl dX11_fees_6 ?_
  refine va_get (D := (dC, dI)) (ci := 6) (v := .int 0) (C := RX6) (T := TX6) (N := 8) hx hb ht inX6 hown hK hP 1 rfl rfl 7 (by decide) (ht _ m_397) (fun _ h9 => h9) rfl dX11_fees_9 ?_
  refine lv_icmp_ge (tgt := 65) hx hb dX11_fees_12 (by decide) (fun c1 => ?_) (fun c1 => ?_)
  · skip
    refine lv_iload_n hx hb dX11_fees_65 rfl (lv_at hl 1 rfl) ?_
    exact W.iret (v := 0) hx hb hr (fun t ht9 hW => ⟨0, rfl, rfl, ht9⟩) (fun q hq => by cases hq) dX11_fees_66
  · exact absurd c1 (by decide)
set_option maxHeartbeats 4000000 in
set_option maxRecDepth 100000 in
/-- X11_go -/
theorem c_X11_go (l : Launch) (dC : Nat → ClassId) (dI : Nat → Nat → Nat) (sz : Nat) (h : Nat) (g : Nat → Nat → Nat) (ca : Nat → Nat → ClassId) (n : Int32) : Met l yX11_go (wc yX11_go cX11_go 2 (some .int)) ({ frames := 1, cells := 0, slots := 0, locals := 22 } : Room) (pW (dC, dI) classes [(h, .inr (11, (o11 h g)))] [] sz [.ref h, .int n]) (va_Qi (fun r (_ : Unit) => r = F_go n) (fun _ _ => True) (va_A [(h, .inr (11, (o11 h g)))] sz)) 0 0 (va_A [(h, .inr (11, (o11 h g)))] sz) := by
  refine Met.ofW (cc := cX11_go) (maxL := 2) (ret := (some .int)) (by decide) rfl ?_
  intro p e s m args below meth c s₁ B hml hv
  obtain ⟨rfl, hsz, hP, hK, hD0⟩ := hv
  have hx := B.exec
  have hb := B.bytes
  have hr := B.returns
  have ht := tb_tl (atoms_spec (ws := wc yX11_go cX11_go 2 (some .int)) B.pre)
  have hown : s.vm.findClass RX11 = some m.cls := findClass_of_methodNamed B.named
  have hlocks := B.notSynchronized
  subst hsz
  have hD := hD0.self (sz := s.heap.size)
  generalize hAe : va_A [(h, .inr (11, (o11 h g)))] s.heap.size = A at hD ⊢
  have hA : ∀ q : Nat, s.heap.size ≤ q → A q := fun q h => by rw [← hAe]; exact Or.inr h
  have hS : va_S A s.heap s.heap [] := va_S.rf
  have hP : va_P (dC, dI) classes [(h, .inr (11, (o11 h g)))] s.heap := hP
  have hl := lv_entry [.ref h, .int n] (n := 2) (Nat.le_of_ble_eq_true rfl)
  rw [lg_entry_eq]
  generalize (lg_sl [.ref h, .int n] ++ List.replicate (2 - (lg_sl [.ref h, .int n]).length) Slot.unset).toArray = ls at hl ⊢
  have hl : lv_has ls 2 [(0, .ref h), (1, .int n)] := hl
  refine lv_iload_n hx hb dX11_go_0 rfl (lv_at hl 1 rfl) ?_
  refine lv_iconst (v := 0) hx hb dX11_go_1 (by decide) ?_
  refine lv_sipush (v := 999) hx hb dX11_go_2 (by decide) ?_
  have hPc := hP.sub (ws' := []) [] rfl
  have hKc := hK.sub (tys' := []) [] rfl
  refine vp_callSi (W.runS (As := [.int n, .int 0, .int 999]) (rest := []) ⟨hx, hb, hml, hown, ht⟩ (c_X11_within l dC dI n 0 999 (n.toInt) (0) (999) (rfl : (n).toInt = _) (by decide : (0 : Int32).toInt = 0) (by decide : (999 : Int32).toInt = 999)) (kS 3 ht m_453 m_454 m_77 m_455 rfl rfl hd_X11_within_v ⟨Nat.le_of_ble_eq_true rfl, Nat.le_of_ble_eq_true rfl⟩) (sR hPc hKc) rfl rfl hl.1 rfl (lv_room (Nat.le_of_ble_eq_true rfl)) dX11_go_5 ⟨Nat.le_of_ble_eq_true rfl, Nat.le_of_ble_eq_true rfl⟩) (fun r1 hr1 => ?_)
  rcases hr1 with ⟨rfl, fr1⟩ | ⟨rfl, fr1⟩
  · skip
    refine lv_if_ne (tgt := 14) hx hb dX11_go_8 (by decide) (fun c2 => ?_) (fun c2 => ?_)
    · skip
      refine lv_aload_n hx hb dX11_go_14 rfl (lv_at hl 0 rfl) ?_
      refine va_get (D := (dC, dI)) (ci := 11) (v := .int 0) (C := RX11) (T := TX11) (N := 11) hx hb ht inX11 hown hK hP 0 rfl rfl 10 (by decide) (ht _ m_425) (fun _ h9 => h9) rfl dX11_go_15 ?_
      refine lv_iload_n hx hb dX11_go_18 rfl (lv_at hl 1 rfl) ?_
      refine lv_iadd hx hb dX11_go_19 ?_
      refine lv_topi (fun v3 ev3 => ?_)
      obtain rfl : n = v3 := (ev3.trans (Int32.zero_add _)).symm
      refine lv_sipush (v := 3000) hx hb dX11_go_20 (by decide) ?_
      refine lv_icmp_le (tgt := 29) hx hb dX11_go_23 (by decide) (fun c4 => ?_) (fun c4 => ?_)
      · skip
        refine lv_aload_n hx hb dX11_go_29 rfl (lv_at hl 0 rfl) ?_
        refine lv_dup hx hb dX11_go_30 rfl ?_
        refine va_get (D := (dC, dI)) (ci := 11) (v := .int 0) (C := RX11) (T := TX11) (N := 11) hx hb ht inX11 hown hK hP 0 rfl rfl 10 (by decide) (ht _ m_425) (fun _ h9 => h9) rfl dX11_go_31 ?_
        refine lv_iload_n hx hb dX11_go_34 rfl (lv_at hl 1 rfl) ?_
        refine lv_iadd hx hb dX11_go_35 ?_
        refine lv_topi (fun v5 ev5 => ?_)
        obtain rfl : n = v5 := (ev5.trans (Int32.zero_add _)).symm
        refine va_put (D := (dC, dI)) (ci := 11) (v := .int n) (ty := (.int)) (C := RX11) (T := TX11) (N := 11) hx hb ht inX11 tyX11 tyX11_ok nmX11 hown hK hP hD hS 0 rfl rfl 10 (by decide) (ht _ m_425) (fun _ h9 => h9) rfl (by decide +kernel) rfl rfl (Nat.le_of_ble_eq_true rfl) dX11_go_36 (fun H locs hP hD hS => ?_)
        have hP : va_P (dC, dI) classes [(h, .inr (11, ((o11 h g).set 10 (.int n))))] H := hP
        have hD : va_D A [(h, .inr (11, ((o11 h g).set 10 (.int n))))] := hD
        refine lv_aload_n hx hb dX11_go_39 rfl (lv_at hl 0 rfl) ?_
        refine va_get (D := (dC, dI)) (ci := 11) (v := .int n) (C := RX11) (T := TX11) (N := 11) hx hb ht inX11 hown hK hP 0 rfl rfl 10 (by decide) (ht _ m_425) (fun _ h9 => h9) rfl dX11_go_40 ?_
        exact W.iret (v := n) hx hb hr (fun t ht9 hW => ⟨⟨n, (), rfl, (by unfold F_go; first | decide | ((repeat' split) <;> first | rfl | (exfalso; omega) | exact z_of (by decide) (by omega))), trivial⟩, hS.F ht9⟩) hS.2.2 dX11_go_43
      · have fc4 := z_nle (rfl : (n).toInt = _) (by decide : (3000 : Int32).toInt = 3000) c4; exfalso; omega
    · exact absurd c2 (by decide)
  · skip
    refine lv_if_ne (tgt := 14) hx hb dX11_go_8 (by decide) (fun c6 => ?_) (fun c6 => ?_)
    · exact absurd rfl c6
    · skip
      refine lv_ldc hx hb hown (ht _ m_456) dX11_go_11 ?_
      exact W.iret (v := (-100002)) hx hb hr (fun t ht9 hW => ⟨⟨(-100002), (), rfl, (by unfold F_go; first | decide | ((repeat' split) <;> first | rfl | (exfalso; omega) | exact z_of (by decide) (by omega))), trivial⟩, hS.F ht9⟩) hS.2.2 dX11_go_13
set_option maxHeartbeats 4000000 in
set_option maxRecDepth 100000 in
/-- X11_bale -/
theorem c_X11_bale (l : Launch) (dC : Nat → ClassId) (dI : Nat → Nat → Nat) (sz : Nat) (h : Nat) (g : Nat → Nat → Nat) (ca : Nat → Nat → ClassId) (n : Int32) : Met l yX11_bale (wc yX11_bale cX11_bale 2 (some .int)) ({ frames := 1, cells := 0, slots := 0, locals := 22 } : Room) (pW (dC, dI) classes [(h, .inr (11, (o11 h g))), ((g 11 2), .inr (0, (o0 h g))), ((g 0 0), .inl ((ca 0 0), 10, .inl (fun _ => 0)))] [((ca 0 0), .int)] sz [.ref h, .int n]) (va_Qi (fun r (_ : Unit) => r = F_bale n) (fun _ _ => True) (va_A [(h, .inr (11, (o11 h g))), ((g 11 2), .inr (0, (o0 h g))), ((g 0 0), .inl ((ca 0 0), 10, .inl (fun _ => 0)))] sz)) 0 0 (va_A [(h, .inr (11, (o11 h g))), ((g 11 2), .inr (0, (o0 h g))), ((g 0 0), .inl ((ca 0 0), 10, .inl (fun _ => 0)))] sz) := by
  refine Met.ofW (cc := cX11_bale) (maxL := 2) (ret := (some .int)) (by decide) rfl ?_
  intro p e s m args below meth c s₁ B hml hv
  obtain ⟨rfl, hsz, hP, hK, hD0⟩ := hv
  have hx := B.exec
  have hb := B.bytes
  have hr := B.returns
  have ht := tb_tl (atoms_spec (ws := wc yX11_bale cX11_bale 2 (some .int)) B.pre)
  have hown : s.vm.findClass RX11 = some m.cls := findClass_of_methodNamed B.named
  have hlocks := B.notSynchronized
  subst hsz
  have hD := hD0.self (sz := s.heap.size)
  generalize hAe : va_A [(h, .inr (11, (o11 h g))), ((g 11 2), .inr (0, (o0 h g))), ((g 0 0), .inl ((ca 0 0), 10, .inl (fun _ => 0)))] s.heap.size = A at hD ⊢
  have hA : ∀ q : Nat, s.heap.size ≤ q → A q := fun q h => by rw [← hAe]; exact Or.inr h
  have hS : va_S A s.heap s.heap [] := va_S.rf
  have hP : va_P (dC, dI) classes [(h, .inr (11, (o11 h g))), ((g 11 2), .inr (0, (o0 h g))), ((g 0 0), .inl ((ca 0 0), 10, .inl (fun _ => 0)))] s.heap := hP
  have hl := lv_entry [.ref h, .int n] (n := 2) (Nat.le_of_ble_eq_true rfl)
  rw [lg_entry_eq]
  generalize (lg_sl [.ref h, .int n] ++ List.replicate (2 - (lg_sl [.ref h, .int n]).length) Slot.unset).toArray = ls at hl ⊢
  have hl : lv_has ls 2 [(0, .ref h), (1, .int n)] := hl
  refine lv_iload_n hx hb dX11_bale_0 rfl (lv_at hl 1 rfl) ?_
  refine lv_iconst (v := 1) hx hb dX11_bale_1 (by decide) ?_
  refine lv_ldc hx hb hown (ht _ m_462) dX11_bale_2 ?_
  have hPc := hP.sub (ws' := []) [] rfl
  have hKc := hK.sub (tys' := []) [] rfl
  refine vp_callSi (W.runS (As := [.int n, .int 1, .int 99999]) (rest := []) ⟨hx, hb, hml, hown, ht⟩ (c_X11_within l dC dI n 1 99999 (n.toInt) (1) (99999) (rfl : (n).toInt = _) (by decide : (1 : Int32).toInt = 1) (by decide : (99999 : Int32).toInt = 99999)) (kS 3 ht m_453 m_454 m_77 m_455 rfl rfl hd_X11_within_v ⟨Nat.le_of_ble_eq_true rfl, Nat.le_of_ble_eq_true rfl⟩) (sR hPc hKc) rfl rfl hl.1 rfl (lv_room (Nat.le_of_ble_eq_true rfl)) dX11_bale_4 ⟨Nat.le_of_ble_eq_true rfl, Nat.le_of_ble_eq_true rfl⟩) (fun r1 hr1 => ?_)
  rcases hr1 with ⟨rfl, fr1⟩ | ⟨rfl, fr1⟩
  · skip
    refine lv_if_ne (tgt := 13) hx hb dX11_bale_7 (by decide) (fun c2 => ?_) (fun c2 => ?_)
    · skip
      refine lv_aload_n hx hb dX11_bale_13 rfl (lv_at hl 0 rfl) ?_
      refine va_get (D := (dC, dI)) (ci := 11) (v := .ref (g 11 2)) (C := RX11) (T := TX11) (N := 11) hx hb ht inX11 hown hK hP 0 rfl rfl 2 (by decide) (ht _ m_417) (fun _ h9 => h9) rfl dX11_bale_14 ?_
      refine va_get (D := (dC, dI)) (ci := 0) (v := .int 0) (C := RX0) (T := TX0) (N := 8) hx hb ht inX0 hown hK hP 1 rfl rfl 7 (by decide) (ht _ m_165) (fun _ h9 => h9) rfl dX11_bale_17 ?_
      refine lv_bipush (v := 10) hx hb dX11_bale_20 (by decide) ?_
      refine lv_icmp_lt (tgt := 28) hx hb dX11_bale_22 (by decide) (fun c3 => ?_) (fun c3 => ?_)
      · skip
        refine lv_aload_n hx hb dX11_bale_28 rfl (lv_at hl 0 rfl) ?_
        refine va_get (D := (dC, dI)) (ci := 11) (v := .ref (g 11 2)) (C := RX11) (T := TX11) (N := 11) hx hb ht inX11 hown hK hP 0 rfl rfl 2 (by decide) (ht _ m_417) (fun _ h9 => h9) rfl dX11_bale_29 ?_
        refine lv_iload_n hx hb dX11_bale_32 rfl (lv_at hl 1 rfl) ?_
        have hPc := hP.sub (ws' := [((g 11 2), .inr (0, (o0 h g))), ((g 0 0), .inl ((ca 0 0), 10, .inl (fun _ => 0)))]) [1, 2] rfl
        have hKc := hK.sub (tys' := [((ca 0 0), .int)]) [0] rfl
        have hDc := hD.sub (ws' := [((g 11 2), .inr (0, (o0 h g))), ((g 0 0), .inl ((ca 0 0), 10, .inl (fun _ => 0)))]) [1, 2] (by decide) rfl
        have hFc := va_free (wc := [((g 11 2), .inr (0, (o0 h g))), ((g 0 0), .inl ((ca 0 0), 10, .inl (fun _ => 0)))]) hD hS hA [1, 2] rfl
        refine va_calli (va_runV (As := [.int n]) (rest := []) ⟨hx, hb, hml, hown, ht⟩ (c_X0_bring l dC dI s.heap.size h g ca n) (kV 1 ht m_464 m_465 m_466 m_80 m_467 rfl rfl hd_X0_bring_v ⟨Nat.le_of_ble_eq_true rfl, Nat.le_of_ble_eq_true rfl⟩) (vW hPc hKc hDc (va_recv hKc hPc (ci := 0) (q0 := 0) rfl rfl)) rfl rfl hl.1 rfl (lv_room (Nat.le_of_ble_eq_true rfl)) dX11_bale_33 ⟨Nat.le_of_ble_eq_true rfl, Nat.le_of_ble_eq_true rfl⟩) hS (fun q _ h => hFc q h) hFc (fun r4 u t H1 locs ht9 hvm hr4 hB hz1 hk1 hS => ?_)
        have hP1 : va_P (dC, dI) classes [] H1 := noP
        have hD1 : va_D (va_A [((g 11 2), .inr (0, (o0 h g))), ((g 0 0), .inl ((ca 0 0), 10, .inl (fun _ => 0)))] s.heap.size) [] := noD
        obtain ⟨hP, hD⟩ := va_join (wr := [(h, .inr (11, (o11 h g)))]) (w1 := []) hP hD [1, 2] [0] rfl rfl (by decide) (by decide) hk1 hFc hP1 hD1
        generalize H1 = H at hP hS ⊢
        have hP : va_P (dC, dI) classes [(h, .inr (11, (o11 h g)))] H := hP
        have hD : va_D A [(h, .inr (11, (o11 h g)))] := hD
        obtain rfl : 0 = r4 := hr4.symm
        exact W.iret (v := 0) hx hb hr (fun t ht9 hW => ⟨⟨0, (), rfl, (by unfold F_bale; first | decide | ((repeat' split) <;> first | rfl | (exfalso; omega) | exact z_of (by decide) (by omega))), trivial⟩, hS.F ht9⟩) hS.2.2 dX11_bale_36
      · exact absurd c3 (by decide)
    · exact absurd c2 (by decide)
  · skip
    refine lv_if_ne (tgt := 13) hx hb dX11_bale_7 (by decide) (fun c5 => ?_) (fun c5 => ?_)
    · exact absurd rfl c5
    · skip
      refine lv_ldc hx hb hown (ht _ m_456) dX11_bale_10 ?_
      exact W.iret (v := (-100002)) hx hb hr (fun t ht9 hW => ⟨⟨(-100002), (), rfl, (by unfold F_bale; first | decide | ((repeat' split) <;> first | rfl | (exfalso; omega) | exact z_of (by decide) (by omega))), trivial⟩, hS.F ht9⟩) hS.2.2 dX11_bale_12
set_option maxHeartbeats 4000000 in
set_option maxRecDepth 100000 in
/-- X11_skein -/
theorem c_X11_skein (l : Launch) (dC : Nat → ClassId) (dI : Nat → Nat → Nat) (h : Nat) (g : Nat → Nat → Nat) (ca : Nat → Nat → ClassId) (a0 : Int32) (a1 : Int32) (a2 : Int32) (a3 : Int32) (a4 : Int32) (a5 : Int32) (a6 : Int32) : Met l yX11_skein (wc yX11_skein cX11_skein 9 (some .int)) ({ frames := 1, cells := 0, slots := 0, locals := 21 } : Room) (pR (dC, dI) classes [(h, .inr (11, (o11 h g))), ((g 11 2), .inr (0, (o0 h g)))] [] [.ref h, .int a0, .int a1, .int a2, .int a3, .int a4, .int a5, .int a6]) (vp_Si (fun r => r = -100001)) 0 0 (fun _ => False) := by
  refine Met.ofW (cc := cX11_skein) (maxL := 9) (ret := (some .int)) (by decide) rfl ?_
  intro p e s m args below meth c s₁ B hml hv
  obtain ⟨rfl, hP, hK⟩ := hv
  have hx := B.exec
  have hb := B.bytes
  have hr := B.returns
  have ht := tb_tl (atoms_spec (ws := wc yX11_skein cX11_skein 9 (some .int)) B.pre)
  have hown : s.vm.findClass RX11 = some m.cls := findClass_of_methodNamed B.named
  have hlocks := B.notSynchronized
  have hl := lv_entry [.ref h, .int a0, .int a1, .int a2, .int a3, .int a4, .int a5, .int a6] (n := 9) (Nat.le_of_ble_eq_true rfl)
  rw [lg_entry_eq]
  generalize (lg_sl [.ref h, .int a0, .int a1, .int a2, .int a3, .int a4, .int a5, .int a6] ++ List.replicate (9 - (lg_sl [.ref h, .int a0, .int a1, .int a2, .int a3, .int a4, .int a5, .int a6]).length) Slot.unset).toArray = ls at hl ⊢
  have hl : lv_has ls 9 [(0, .ref h), (1, .int a0), (2, .int a1), (3, .int a2), (4, .int a3), (5, .int a4), (6, .int a5), (7, .int a6)] := hl
  refine lv_aload_n hx hb dX11_skein_0 rfl (lv_at hl 0 rfl) ?_
  refine va_get (D := (dC, dI)) (ci := 11) (v := .ref (g 11 2)) (C := RX11) (T := TX11) (N := 11) hx hb ht inX11 hown hK hP 0 rfl rfl 2 (by decide) (ht _ m_417) (fun _ h9 => h9) rfl dX11_skein_1 ?_
  refine lv_iload_n hx hb dX11_skein_4 rfl (lv_at hl 1 rfl) ?_
  have hPc := hP.sub (ws' := [((g 11 2), .inr (0, (o0 h g)))]) [1] rfl
  have hKc := hK.sub (tys' := []) [] rfl
  refine vp_callSi (W.runV (As := [.int a0]) (rest := []) ⟨hx, hb, hml, hown, ht⟩ (c_X0_has l dC dI h g ca a0) (kV 1 ht m_472 m_473 m_474 m_80 m_475 rfl rfl hd_X0_has_v ⟨Nat.le_of_ble_eq_true rfl, Nat.le_of_ble_eq_true rfl⟩) (vR hPc hKc (va_recv hKc hPc (ci := 0) (q0 := 0) rfl rfl)) rfl rfl hl.1 rfl (lv_room (Nat.le_of_ble_eq_true rfl)) dX11_skein_5 ⟨Nat.le_of_ble_eq_true rfl, Nat.le_of_ble_eq_true rfl⟩) (fun r1 hr1 => ?_)
  obtain rfl : 0 = r1 := hr1.symm
  refine lv_if_ne (tgt := 14) hx hb dX11_skein_8 (by decide) (fun c2 => ?_) (fun c2 => ?_)
  · exact absurd rfl c2
  · skip
    refine lv_ldc hx hb hown (ht _ m_476) dX11_skein_11 ?_
    exact W.iret (v := (-100001)) hx hb hr (fun t ht9 hW => ⟨(-100001), rfl, rfl, ht9⟩) (fun q hq => by cases hq) dX11_skein_13
set_option maxHeartbeats 4000000 in
set_option maxRecDepth 100000 in
/-- X11_ratio -/
theorem c_X11_ratio (l : Launch) (dC : Nat → ClassId) (dI : Nat → Nat → Nat) (h : Nat) (g : Nat → Nat → Nat) (ca : Nat → Nat → ClassId) (a0 : Int32) (a1 : Int32) (a2 : Int32) : Met l yX11_ratio (wc yX11_ratio cX11_ratio 4 (some .int)) ({ frames := 1, cells := 0, slots := 0, locals := 21 } : Room) (pR (dC, dI) classes [(h, .inr (11, (o11 h g))), ((g 11 2), .inr (0, (o0 h g)))] [] [.ref h, .int a0, .int a1, .int a2]) (vp_Si (fun r => r = -100001)) 0 0 (fun _ => False) := by
  refine Met.ofW (cc := cX11_ratio) (maxL := 4) (ret := (some .int)) (by decide) rfl ?_
  intro p e s m args below meth c s₁ B hml hv
  obtain ⟨rfl, hP, hK⟩ := hv
  have hx := B.exec
  have hb := B.bytes
  have hr := B.returns
  have ht := tb_tl (atoms_spec (ws := wc yX11_ratio cX11_ratio 4 (some .int)) B.pre)
  have hown : s.vm.findClass RX11 = some m.cls := findClass_of_methodNamed B.named
  have hlocks := B.notSynchronized
  have hl := lv_entry [.ref h, .int a0, .int a1, .int a2] (n := 4) (Nat.le_of_ble_eq_true rfl)
  rw [lg_entry_eq]
  generalize (lg_sl [.ref h, .int a0, .int a1, .int a2] ++ List.replicate (4 - (lg_sl [.ref h, .int a0, .int a1, .int a2]).length) Slot.unset).toArray = ls at hl ⊢
  have hl : lv_has ls 4 [(0, .ref h), (1, .int a0), (2, .int a1), (3, .int a2)] := hl
  refine lv_aload_n hx hb dX11_ratio_0 rfl (lv_at hl 0 rfl) ?_
  refine va_get (D := (dC, dI)) (ci := 11) (v := .ref (g 11 2)) (C := RX11) (T := TX11) (N := 11) hx hb ht inX11 hown hK hP 0 rfl rfl 2 (by decide) (ht _ m_417) (fun _ h9 => h9) rfl dX11_ratio_1 ?_
  refine lv_iload_n hx hb dX11_ratio_4 rfl (lv_at hl 1 rfl) ?_
  have hPc := hP.sub (ws' := [((g 11 2), .inr (0, (o0 h g)))]) [1] rfl
  have hKc := hK.sub (tys' := []) [] rfl
  refine vp_callSi (W.runV (As := [.int a0]) (rest := []) ⟨hx, hb, hml, hown, ht⟩ (c_X0_has l dC dI h g ca a0) (kV 1 ht m_472 m_473 m_474 m_80 m_475 rfl rfl hd_X0_has_v ⟨Nat.le_of_ble_eq_true rfl, Nat.le_of_ble_eq_true rfl⟩) (vR hPc hKc (va_recv hKc hPc (ci := 0) (q0 := 0) rfl rfl)) rfl rfl hl.1 rfl (lv_room (Nat.le_of_ble_eq_true rfl)) dX11_ratio_5 ⟨Nat.le_of_ble_eq_true rfl, Nat.le_of_ble_eq_true rfl⟩) (fun r1 hr1 => ?_)
  obtain rfl : 0 = r1 := hr1.symm
  refine lv_if_ne (tgt := 14) hx hb dX11_ratio_8 (by decide) (fun c2 => ?_) (fun c2 => ?_)
  · exact absurd rfl c2
  · skip
    refine lv_ldc hx hb hown (ht _ m_476) dX11_ratio_11 ?_
    exact W.iret (v := (-100001)) hx hb hr (fun t ht9 hW => ⟨(-100001), rfl, rfl, ht9⟩) (fun q hq => by cases hq) dX11_ratio_13
set_option maxHeartbeats 4000000 in
set_option maxRecDepth 100000 in
/-- X11_state -/
theorem c_X11_state (l : Launch) (dC : Nat → ClassId) (dI : Nat → Nat → Nat) (h : Nat) (g : Nat → Nat → Nat) (ca : Nat → Nat → ClassId) (a0 : Int32) (a1 : Int32) : Met l yX11_state (wc yX11_state cX11_state 3 (some .int)) ({ frames := 1, cells := 0, slots := 0, locals := 21 } : Room) (pR (dC, dI) classes [(h, .inr (11, (o11 h g))), ((g 11 2), .inr (0, (o0 h g)))] [] [.ref h, .int a0, .int a1]) (vp_Si (fun r => r = -100001)) 0 0 (fun _ => False) := by
  refine Met.ofW (cc := cX11_state) (maxL := 3) (ret := (some .int)) (by decide) rfl ?_
  intro p e s m args below meth c s₁ B hml hv
  obtain ⟨rfl, hP, hK⟩ := hv
  have hx := B.exec
  have hb := B.bytes
  have hr := B.returns
  have ht := tb_tl (atoms_spec (ws := wc yX11_state cX11_state 3 (some .int)) B.pre)
  have hown : s.vm.findClass RX11 = some m.cls := findClass_of_methodNamed B.named
  have hlocks := B.notSynchronized
  have hl := lv_entry [.ref h, .int a0, .int a1] (n := 3) (Nat.le_of_ble_eq_true rfl)
  rw [lg_entry_eq]
  generalize (lg_sl [.ref h, .int a0, .int a1] ++ List.replicate (3 - (lg_sl [.ref h, .int a0, .int a1]).length) Slot.unset).toArray = ls at hl ⊢
  have hl : lv_has ls 3 [(0, .ref h), (1, .int a0), (2, .int a1)] := hl
  refine lv_aload_n hx hb dX11_state_0 rfl (lv_at hl 0 rfl) ?_
  refine va_get (D := (dC, dI)) (ci := 11) (v := .ref (g 11 2)) (C := RX11) (T := TX11) (N := 11) hx hb ht inX11 hown hK hP 0 rfl rfl 2 (by decide) (ht _ m_417) (fun _ h9 => h9) rfl dX11_state_1 ?_
  refine lv_iload_n hx hb dX11_state_4 rfl (lv_at hl 1 rfl) ?_
  have hPc := hP.sub (ws' := [((g 11 2), .inr (0, (o0 h g)))]) [1] rfl
  have hKc := hK.sub (tys' := []) [] rfl
  refine vp_callSi (W.runV (As := [.int a0]) (rest := []) ⟨hx, hb, hml, hown, ht⟩ (c_X0_has l dC dI h g ca a0) (kV 1 ht m_472 m_473 m_474 m_80 m_475 rfl rfl hd_X0_has_v ⟨Nat.le_of_ble_eq_true rfl, Nat.le_of_ble_eq_true rfl⟩) (vR hPc hKc (va_recv hKc hPc (ci := 0) (q0 := 0) rfl rfl)) rfl rfl hl.1 rfl (lv_room (Nat.le_of_ble_eq_true rfl)) dX11_state_5 ⟨Nat.le_of_ble_eq_true rfl, Nat.le_of_ble_eq_true rfl⟩) (fun r1 hr1 => ?_)
  obtain rfl : 0 = r1 := hr1.symm
  refine lv_if_ne (tgt := 14) hx hb dX11_state_8 (by decide) (fun c2 => ?_) (fun c2 => ?_)
  · exact absurd rfl c2
  · skip
    refine lv_ldc hx hb hown (ht _ m_476) dX11_state_11 ?_
    exact W.iret (v := (-100001)) hx hb hr (fun t ht9 hW => ⟨(-100001), rfl, rfl, ht9⟩) (fun q hq => by cases hq) dX11_state_13
set_option maxHeartbeats 4000000 in
set_option maxRecDepth 100000 in
/-- X11_lawful -/
theorem c_X11_lawful (l : Launch) (dC : Nat → ClassId) (dI : Nat → Nat → Nat) (h : Nat) (g : Nat → Nat → Nat) (ca : Nat → Nat → ClassId) (a0 : Int32) (a1 : Int32) (a2 : Int32) : Met l yX11_lawful (wc yX11_lawful cX11_lawful 4 (some .long)) ({ frames := 1, cells := 0, slots := 0, locals := 21 } : Room) (pR (dC, dI) classes [(h, .inr (11, (o11 h g))), ((g 11 2), .inr (0, (o0 h g)))] [] [.ref h, .int a0, .int a1, .int a2]) (vp_Sl (fun r => r = -100001)) 0 0 (fun _ => False) := by
  refine Met.ofW (cc := cX11_lawful) (maxL := 4) (ret := (some .long)) (by decide) rfl ?_
  intro p e s m args below meth c s₁ B hml hv
  obtain ⟨rfl, hP, hK⟩ := hv
  have hx := B.exec
  have hb := B.bytes
  have hr := B.returns
  have ht := tb_tl (atoms_spec (ws := wc yX11_lawful cX11_lawful 4 (some .long)) B.pre)
  have hown : s.vm.findClass RX11 = some m.cls := findClass_of_methodNamed B.named
  have hlocks := B.notSynchronized
  have hl := lv_entry [.ref h, .int a0, .int a1, .int a2] (n := 4) (Nat.le_of_ble_eq_true rfl)
  rw [lg_entry_eq]
  generalize (lg_sl [.ref h, .int a0, .int a1, .int a2] ++ List.replicate (4 - (lg_sl [.ref h, .int a0, .int a1, .int a2]).length) Slot.unset).toArray = ls at hl ⊢
  have hl : lv_has ls 4 [(0, .ref h), (1, .int a0), (2, .int a1), (3, .int a2)] := hl
  refine lv_aload_n hx hb dX11_lawful_0 rfl (lv_at hl 0 rfl) ?_
  refine va_get (D := (dC, dI)) (ci := 11) (v := .ref (g 11 2)) (C := RX11) (T := TX11) (N := 11) hx hb ht inX11 hown hK hP 0 rfl rfl 2 (by decide) (ht _ m_417) (fun _ h9 => h9) rfl dX11_lawful_1 ?_
  refine lv_iload_n hx hb dX11_lawful_4 rfl (lv_at hl 1 rfl) ?_
  have hPc := hP.sub (ws' := [((g 11 2), .inr (0, (o0 h g)))]) [1] rfl
  have hKc := hK.sub (tys' := []) [] rfl
  refine vp_callSi (W.runV (As := [.int a0]) (rest := []) ⟨hx, hb, hml, hown, ht⟩ (c_X0_has l dC dI h g ca a0) (kV 1 ht m_472 m_473 m_474 m_80 m_475 rfl rfl hd_X0_has_v ⟨Nat.le_of_ble_eq_true rfl, Nat.le_of_ble_eq_true rfl⟩) (vR hPc hKc (va_recv hKc hPc (ci := 0) (q0 := 0) rfl rfl)) rfl rfl hl.1 rfl (lv_room (Nat.le_of_ble_eq_true rfl)) dX11_lawful_5 ⟨Nat.le_of_ble_eq_true rfl, Nat.le_of_ble_eq_true rfl⟩) (fun r1 hr1 => ?_)
  obtain rfl : 0 = r1 := hr1.symm
  refine lv_if_ne (tgt := 15) hx hb dX11_lawful_8 (by decide) (fun c2 => ?_) (fun c2 => ?_)
  · exact absurd rfl c2
  · skip
    refine lv_ldc2 hx hb hown (ht _ m_837) dX11_lawful_11 ?_
    exact W.lret (v := (-100001)) hx hb hr (fun t ht9 hW => ⟨(-100001), rfl, rfl, ht9⟩) (fun q hq => by cases hq) dX11_lawful_14
set_option maxHeartbeats 4000000 in
set_option maxRecDepth 100000 in
/-- X11_span -/
theorem c_X11_span (l : Launch) (dC : Nat → ClassId) (dI : Nat → Nat → Nat) (h : Nat) (g : Nat → Nat → Nat) (ca : Nat → Nat → ClassId) (a0 : Int32) (a1 : Int32) : Met l yX11_span (wc yX11_span cX11_span 7 (some .long)) ({ frames := 1, cells := 0, slots := 0, locals := 21 } : Room) (pR (dC, dI) classes [(h, .inr (11, (o11 h g))), ((g 11 2), .inr (0, (o0 h g)))] [] [.ref h, .int a0, .int a1]) (vp_Sl (fun r => r = -100001)) 0 0 (fun _ => False) := by
  refine Met.ofW (cc := cX11_span) (maxL := 7) (ret := (some .long)) (by decide) rfl ?_
  intro p e s m args below meth c s₁ B hml hv
  obtain ⟨rfl, hP, hK⟩ := hv
  have hx := B.exec
  have hb := B.bytes
  have hr := B.returns
  have ht := tb_tl (atoms_spec (ws := wc yX11_span cX11_span 7 (some .long)) B.pre)
  have hown : s.vm.findClass RX11 = some m.cls := findClass_of_methodNamed B.named
  have hlocks := B.notSynchronized
  have hl := lv_entry [.ref h, .int a0, .int a1] (n := 7) (Nat.le_of_ble_eq_true rfl)
  rw [lg_entry_eq]
  generalize (lg_sl [.ref h, .int a0, .int a1] ++ List.replicate (7 - (lg_sl [.ref h, .int a0, .int a1]).length) Slot.unset).toArray = ls at hl ⊢
  have hl : lv_has ls 7 [(0, .ref h), (1, .int a0), (2, .int a1)] := hl
  refine lv_aload_n hx hb dX11_span_0 rfl (lv_at hl 0 rfl) ?_
  refine va_get (D := (dC, dI)) (ci := 11) (v := .ref (g 11 2)) (C := RX11) (T := TX11) (N := 11) hx hb ht inX11 hown hK hP 0 rfl rfl 2 (by decide) (ht _ m_417) (fun _ h9 => h9) rfl dX11_span_1 ?_
  refine lv_iload_n hx hb dX11_span_4 rfl (lv_at hl 1 rfl) ?_
  have hPc := hP.sub (ws' := [((g 11 2), .inr (0, (o0 h g)))]) [1] rfl
  have hKc := hK.sub (tys' := []) [] rfl
  refine vp_callSi (W.runV (As := [.int a0]) (rest := []) ⟨hx, hb, hml, hown, ht⟩ (c_X0_has l dC dI h g ca a0) (kV 1 ht m_472 m_473 m_474 m_80 m_475 rfl rfl hd_X0_has_v ⟨Nat.le_of_ble_eq_true rfl, Nat.le_of_ble_eq_true rfl⟩) (vR hPc hKc (va_recv hKc hPc (ci := 0) (q0 := 0) rfl rfl)) rfl rfl hl.1 rfl (lv_room (Nat.le_of_ble_eq_true rfl)) dX11_span_5 ⟨Nat.le_of_ble_eq_true rfl, Nat.le_of_ble_eq_true rfl⟩) (fun r1 hr1 => ?_)
  obtain rfl : 0 = r1 := hr1.symm
  refine lv_if_ne (tgt := 15) hx hb dX11_span_8 (by decide) (fun c2 => ?_) (fun c2 => ?_)
  · exact absurd rfl c2
  · skip
    refine lv_ldc2 hx hb hown (ht _ m_837) dX11_span_11 ?_
    exact W.lret (v := (-100001)) hx hb hr (fun t ht9 hW => ⟨(-100001), rfl, rfl, ht9⟩) (fun q hq => by cases hq) dX11_span_14
set_option maxHeartbeats 4000000 in
set_option maxRecDepth 100000 in
/-- X11_cause -/
theorem c_X11_cause (l : Launch) (dC : Nat → ClassId) (dI : Nat → Nat → Nat) (h : Nat) (g : Nat → Nat → Nat) (ca : Nat → Nat → ClassId) (a0 : Int32) (a1 : Int32) : Met l yX11_cause (wc yX11_cause cX11_cause 3 (some .int)) ({ frames := 1, cells := 0, slots := 0, locals := 21 } : Room) (pR (dC, dI) classes [(h, .inr (11, (o11 h g))), ((g 11 2), .inr (0, (o0 h g)))] [] [.ref h, .int a0, .int a1]) (vp_Si (fun r => r = -100001)) 0 0 (fun _ => False) := by
  refine Met.ofW (cc := cX11_cause) (maxL := 3) (ret := (some .int)) (by decide) rfl ?_
  intro p e s m args below meth c s₁ B hml hv
  obtain ⟨rfl, hP, hK⟩ := hv
  have hx := B.exec
  have hb := B.bytes
  have hr := B.returns
  have ht := tb_tl (atoms_spec (ws := wc yX11_cause cX11_cause 3 (some .int)) B.pre)
  have hown : s.vm.findClass RX11 = some m.cls := findClass_of_methodNamed B.named
  have hlocks := B.notSynchronized
  have hl := lv_entry [.ref h, .int a0, .int a1] (n := 3) (Nat.le_of_ble_eq_true rfl)
  rw [lg_entry_eq]
  generalize (lg_sl [.ref h, .int a0, .int a1] ++ List.replicate (3 - (lg_sl [.ref h, .int a0, .int a1]).length) Slot.unset).toArray = ls at hl ⊢
  have hl : lv_has ls 3 [(0, .ref h), (1, .int a0), (2, .int a1)] := hl
  refine lv_aload_n hx hb dX11_cause_0 rfl (lv_at hl 0 rfl) ?_
  refine va_get (D := (dC, dI)) (ci := 11) (v := .ref (g 11 2)) (C := RX11) (T := TX11) (N := 11) hx hb ht inX11 hown hK hP 0 rfl rfl 2 (by decide) (ht _ m_417) (fun _ h9 => h9) rfl dX11_cause_1 ?_
  refine lv_iload_n hx hb dX11_cause_4 rfl (lv_at hl 1 rfl) ?_
  have hPc := hP.sub (ws' := [((g 11 2), .inr (0, (o0 h g)))]) [1] rfl
  have hKc := hK.sub (tys' := []) [] rfl
  refine vp_callSi (W.runV (As := [.int a0]) (rest := []) ⟨hx, hb, hml, hown, ht⟩ (c_X0_has l dC dI h g ca a0) (kV 1 ht m_472 m_473 m_474 m_80 m_475 rfl rfl hd_X0_has_v ⟨Nat.le_of_ble_eq_true rfl, Nat.le_of_ble_eq_true rfl⟩) (vR hPc hKc (va_recv hKc hPc (ci := 0) (q0 := 0) rfl rfl)) rfl rfl hl.1 rfl (lv_room (Nat.le_of_ble_eq_true rfl)) dX11_cause_5 ⟨Nat.le_of_ble_eq_true rfl, Nat.le_of_ble_eq_true rfl⟩) (fun r1 hr1 => ?_)
  obtain rfl : 0 = r1 := hr1.symm
  refine lv_if_ne (tgt := 14) hx hb dX11_cause_8 (by decide) (fun c2 => ?_) (fun c2 => ?_)
  · exact absurd rfl c2
  · skip
    refine lv_ldc hx hb hown (ht _ m_476) dX11_cause_11 ?_
    exact W.iret (v := (-100001)) hx hb hr (fun t ht9 hW => ⟨(-100001), rfl, rfl, ht9⟩) (fun q hq => by cases hq) dX11_cause_13
set_option maxHeartbeats 4000000 in
set_option maxRecDepth 100000 in
/-- X11_odd -/
theorem c_X11_odd (l : Launch) (dC : Nat → ClassId) (dI : Nat → Nat → Nat) (h : Nat) (g : Nat → Nat → Nat) (ca : Nat → Nat → ClassId) (a0 : Int32) (a1 : Int32) : Met l yX11_odd (wc yX11_odd cX11_odd 3 (some .int)) ({ frames := 1, cells := 0, slots := 0, locals := 21 } : Room) (pR (dC, dI) classes [(h, .inr (11, (o11 h g))), ((g 11 2), .inr (0, (o0 h g)))] [] [.ref h, .int a0, .int a1]) (vp_Si (fun r => r = -100001)) 0 0 (fun _ => False) := by
  refine Met.ofW (cc := cX11_odd) (maxL := 3) (ret := (some .int)) (by decide) rfl ?_
  intro p e s m args below meth c s₁ B hml hv
  obtain ⟨rfl, hP, hK⟩ := hv
  have hx := B.exec
  have hb := B.bytes
  have hr := B.returns
  have ht := tb_tl (atoms_spec (ws := wc yX11_odd cX11_odd 3 (some .int)) B.pre)
  have hown : s.vm.findClass RX11 = some m.cls := findClass_of_methodNamed B.named
  have hlocks := B.notSynchronized
  have hl := lv_entry [.ref h, .int a0, .int a1] (n := 3) (Nat.le_of_ble_eq_true rfl)
  rw [lg_entry_eq]
  generalize (lg_sl [.ref h, .int a0, .int a1] ++ List.replicate (3 - (lg_sl [.ref h, .int a0, .int a1]).length) Slot.unset).toArray = ls at hl ⊢
  have hl : lv_has ls 3 [(0, .ref h), (1, .int a0), (2, .int a1)] := hl
  refine lv_aload_n hx hb dX11_odd_0 rfl (lv_at hl 0 rfl) ?_
  refine va_get (D := (dC, dI)) (ci := 11) (v := .ref (g 11 2)) (C := RX11) (T := TX11) (N := 11) hx hb ht inX11 hown hK hP 0 rfl rfl 2 (by decide) (ht _ m_417) (fun _ h9 => h9) rfl dX11_odd_1 ?_
  refine lv_iload_n hx hb dX11_odd_4 rfl (lv_at hl 1 rfl) ?_
  have hPc := hP.sub (ws' := [((g 11 2), .inr (0, (o0 h g)))]) [1] rfl
  have hKc := hK.sub (tys' := []) [] rfl
  refine vp_callSi (W.runV (As := [.int a0]) (rest := []) ⟨hx, hb, hml, hown, ht⟩ (c_X0_has l dC dI h g ca a0) (kV 1 ht m_472 m_473 m_474 m_80 m_475 rfl rfl hd_X0_has_v ⟨Nat.le_of_ble_eq_true rfl, Nat.le_of_ble_eq_true rfl⟩) (vR hPc hKc (va_recv hKc hPc (ci := 0) (q0 := 0) rfl rfl)) rfl rfl hl.1 rfl (lv_room (Nat.le_of_ble_eq_true rfl)) dX11_odd_5 ⟨Nat.le_of_ble_eq_true rfl, Nat.le_of_ble_eq_true rfl⟩) (fun r1 hr1 => ?_)
  obtain rfl : 0 = r1 := hr1.symm
  refine lv_if_ne (tgt := 14) hx hb dX11_odd_8 (by decide) (fun c2 => ?_) (fun c2 => ?_)
  · exact absurd rfl c2
  · skip
    refine lv_ldc hx hb hown (ht _ m_476) dX11_odd_11 ?_
    exact W.iret (v := (-100001)) hx hb hr (fun t ht9 hW => ⟨(-100001), rfl, rfl, ht9⟩) (fun q hq => by cases hq) dX11_odd_13
set_option maxHeartbeats 4000000 in
set_option maxRecDepth 100000 in
/-- X11_needed -/
theorem c_X11_needed (l : Launch) (dC : Nat → ClassId) (dI : Nat → Nat → Nat) (h : Nat) (g : Nat → Nat → Nat) (ca : Nat → Nat → ClassId) (a0 : Int32) (a1 : Int32) : Met l yX11_needed (wc yX11_needed cX11_needed 3 (some .int)) ({ frames := 1, cells := 0, slots := 0, locals := 21 } : Room) (pR (dC, dI) classes [(h, .inr (11, (o11 h g))), ((g 11 2), .inr (0, (o0 h g)))] [] [.ref h, .int a0, .int a1]) (vp_Si (fun r => r = -100001)) 0 0 (fun _ => False) := by
  refine Met.ofW (cc := cX11_needed) (maxL := 3) (ret := (some .int)) (by decide) rfl ?_
  intro p e s m args below meth c s₁ B hml hv
  obtain ⟨rfl, hP, hK⟩ := hv
  have hx := B.exec
  have hb := B.bytes
  have hr := B.returns
  have ht := tb_tl (atoms_spec (ws := wc yX11_needed cX11_needed 3 (some .int)) B.pre)
  have hown : s.vm.findClass RX11 = some m.cls := findClass_of_methodNamed B.named
  have hlocks := B.notSynchronized
  have hl := lv_entry [.ref h, .int a0, .int a1] (n := 3) (Nat.le_of_ble_eq_true rfl)
  rw [lg_entry_eq]
  generalize (lg_sl [.ref h, .int a0, .int a1] ++ List.replicate (3 - (lg_sl [.ref h, .int a0, .int a1]).length) Slot.unset).toArray = ls at hl ⊢
  have hl : lv_has ls 3 [(0, .ref h), (1, .int a0), (2, .int a1)] := hl
  refine lv_aload_n hx hb dX11_needed_0 rfl (lv_at hl 0 rfl) ?_
  refine va_get (D := (dC, dI)) (ci := 11) (v := .ref (g 11 2)) (C := RX11) (T := TX11) (N := 11) hx hb ht inX11 hown hK hP 0 rfl rfl 2 (by decide) (ht _ m_417) (fun _ h9 => h9) rfl dX11_needed_1 ?_
  refine lv_iload_n hx hb dX11_needed_4 rfl (lv_at hl 1 rfl) ?_
  have hPc := hP.sub (ws' := [((g 11 2), .inr (0, (o0 h g)))]) [1] rfl
  have hKc := hK.sub (tys' := []) [] rfl
  refine vp_callSi (W.runV (As := [.int a0]) (rest := []) ⟨hx, hb, hml, hown, ht⟩ (c_X0_has l dC dI h g ca a0) (kV 1 ht m_472 m_473 m_474 m_80 m_475 rfl rfl hd_X0_has_v ⟨Nat.le_of_ble_eq_true rfl, Nat.le_of_ble_eq_true rfl⟩) (vR hPc hKc (va_recv hKc hPc (ci := 0) (q0 := 0) rfl rfl)) rfl rfl hl.1 rfl (lv_room (Nat.le_of_ble_eq_true rfl)) dX11_needed_5 ⟨Nat.le_of_ble_eq_true rfl, Nat.le_of_ble_eq_true rfl⟩) (fun r1 hr1 => ?_)
  obtain rfl : 0 = r1 := hr1.symm
  refine lv_if_ne (tgt := 14) hx hb dX11_needed_8 (by decide) (fun c2 => ?_) (fun c2 => ?_)
  · exact absurd rfl c2
  · skip
    refine lv_ldc hx hb hown (ht _ m_476) dX11_needed_11 ?_
    exact W.iret (v := (-100001)) hx hb hr (fun t ht9 hW => ⟨(-100001), rfl, rfl, ht9⟩) (fun q hq => by cases hq) dX11_needed_13
set_option maxHeartbeats 4000000 in
set_option maxRecDepth 100000 in
/-- X11_thread -/
theorem c_X11_thread (l : Launch) (dC : Nat → ClassId) (dI : Nat → Nat → Nat) (h : Nat) (g : Nat → Nat → Nat) (ca : Nat → Nat → ClassId) (a0 : Int32) (a1 : Int32) : Met l yX11_thread (wc yX11_thread cX11_thread 3 (some .int)) ({ frames := 1, cells := 0, slots := 0, locals := 21 } : Room) (pR (dC, dI) classes [(h, .inr (11, (o11 h g))), ((g 11 2), .inr (0, (o0 h g)))] [] [.ref h, .int a0, .int a1]) (vp_Si (fun r => r = -100001)) 0 0 (fun _ => False) := by
  refine Met.ofW (cc := cX11_thread) (maxL := 3) (ret := (some .int)) (by decide) rfl ?_
  intro p e s m args below meth c s₁ B hml hv
  obtain ⟨rfl, hP, hK⟩ := hv
  have hx := B.exec
  have hb := B.bytes
  have hr := B.returns
  have ht := tb_tl (atoms_spec (ws := wc yX11_thread cX11_thread 3 (some .int)) B.pre)
  have hown : s.vm.findClass RX11 = some m.cls := findClass_of_methodNamed B.named
  have hlocks := B.notSynchronized
  have hl := lv_entry [.ref h, .int a0, .int a1] (n := 3) (Nat.le_of_ble_eq_true rfl)
  rw [lg_entry_eq]
  generalize (lg_sl [.ref h, .int a0, .int a1] ++ List.replicate (3 - (lg_sl [.ref h, .int a0, .int a1]).length) Slot.unset).toArray = ls at hl ⊢
  have hl : lv_has ls 3 [(0, .ref h), (1, .int a0), (2, .int a1)] := hl
  refine lv_aload_n hx hb dX11_thread_0 rfl (lv_at hl 0 rfl) ?_
  refine va_get (D := (dC, dI)) (ci := 11) (v := .ref (g 11 2)) (C := RX11) (T := TX11) (N := 11) hx hb ht inX11 hown hK hP 0 rfl rfl 2 (by decide) (ht _ m_417) (fun _ h9 => h9) rfl dX11_thread_1 ?_
  refine lv_iload_n hx hb dX11_thread_4 rfl (lv_at hl 1 rfl) ?_
  have hPc := hP.sub (ws' := [((g 11 2), .inr (0, (o0 h g)))]) [1] rfl
  have hKc := hK.sub (tys' := []) [] rfl
  refine vp_callSi (W.runV (As := [.int a0]) (rest := []) ⟨hx, hb, hml, hown, ht⟩ (c_X0_has l dC dI h g ca a0) (kV 1 ht m_472 m_473 m_474 m_80 m_475 rfl rfl hd_X0_has_v ⟨Nat.le_of_ble_eq_true rfl, Nat.le_of_ble_eq_true rfl⟩) (vR hPc hKc (va_recv hKc hPc (ci := 0) (q0 := 0) rfl rfl)) rfl rfl hl.1 rfl (lv_room (Nat.le_of_ble_eq_true rfl)) dX11_thread_5 ⟨Nat.le_of_ble_eq_true rfl, Nat.le_of_ble_eq_true rfl⟩) (fun r1 hr1 => ?_)
  obtain rfl : 0 = r1 := hr1.symm
  refine lv_if_ne (tgt := 14) hx hb dX11_thread_8 (by decide) (fun c2 => ?_) (fun c2 => ?_)
  · exact absurd rfl c2
  · skip
    refine lv_ldc hx hb hown (ht _ m_476) dX11_thread_11 ?_
    exact W.iret (v := (-100001)) hx hb hr (fun t ht9 hW => ⟨(-100001), rfl, rfl, ht9⟩) (fun q hq => by cases hq) dX11_thread_13
set_option maxHeartbeats 4000000 in
set_option maxRecDepth 100000 in
/-- X11_size -/
theorem c_X11_size (l : Launch) (dC : Nat → ClassId) (dI : Nat → Nat → Nat) (h : Nat) (g : Nat → Nat → Nat) (ca : Nat → Nat → ClassId) (a0 : Int32) (a1 : Int32) : Met l yX11_size (wc yX11_size cX11_size 7 (some .int)) ({ frames := 1, cells := 0, slots := 0, locals := 21 } : Room) (pR (dC, dI) classes [(h, .inr (11, (o11 h g))), ((g 11 2), .inr (0, (o0 h g)))] [] [.ref h, .int a0, .int a1]) (vp_Si (fun r => r = -100001)) 0 0 (fun _ => False) := by
  refine Met.ofW (cc := cX11_size) (maxL := 7) (ret := (some .int)) (by decide) rfl ?_
  intro p e s m args below meth c s₁ B hml hv
  obtain ⟨rfl, hP, hK⟩ := hv
  have hx := B.exec
  have hb := B.bytes
  have hr := B.returns
  have ht := tb_tl (atoms_spec (ws := wc yX11_size cX11_size 7 (some .int)) B.pre)
  have hown : s.vm.findClass RX11 = some m.cls := findClass_of_methodNamed B.named
  have hlocks := B.notSynchronized
  have hl := lv_entry [.ref h, .int a0, .int a1] (n := 7) (Nat.le_of_ble_eq_true rfl)
  rw [lg_entry_eq]
  generalize (lg_sl [.ref h, .int a0, .int a1] ++ List.replicate (7 - (lg_sl [.ref h, .int a0, .int a1]).length) Slot.unset).toArray = ls at hl ⊢
  have hl : lv_has ls 7 [(0, .ref h), (1, .int a0), (2, .int a1)] := hl
  refine lv_aload_n hx hb dX11_size_0 rfl (lv_at hl 0 rfl) ?_
  refine va_get (D := (dC, dI)) (ci := 11) (v := .ref (g 11 2)) (C := RX11) (T := TX11) (N := 11) hx hb ht inX11 hown hK hP 0 rfl rfl 2 (by decide) (ht _ m_417) (fun _ h9 => h9) rfl dX11_size_1 ?_
  refine lv_iload_n hx hb dX11_size_4 rfl (lv_at hl 1 rfl) ?_
  have hPc := hP.sub (ws' := [((g 11 2), .inr (0, (o0 h g)))]) [1] rfl
  have hKc := hK.sub (tys' := []) [] rfl
  refine vp_callSi (W.runV (As := [.int a0]) (rest := []) ⟨hx, hb, hml, hown, ht⟩ (c_X0_has l dC dI h g ca a0) (kV 1 ht m_472 m_473 m_474 m_80 m_475 rfl rfl hd_X0_has_v ⟨Nat.le_of_ble_eq_true rfl, Nat.le_of_ble_eq_true rfl⟩) (vR hPc hKc (va_recv hKc hPc (ci := 0) (q0 := 0) rfl rfl)) rfl rfl hl.1 rfl (lv_room (Nat.le_of_ble_eq_true rfl)) dX11_size_5 ⟨Nat.le_of_ble_eq_true rfl, Nat.le_of_ble_eq_true rfl⟩) (fun r1 hr1 => ?_)
  obtain rfl : 0 = r1 := hr1.symm
  refine lv_if_ne (tgt := 14) hx hb dX11_size_8 (by decide) (fun c2 => ?_) (fun c2 => ?_)
  · exact absurd rfl c2
  · skip
    refine lv_ldc hx hb hown (ht _ m_476) dX11_size_11 ?_
    exact W.iret (v := (-100001)) hx hb hr (fun t ht9 hW => ⟨(-100001), rfl, rfl, ht9⟩) (fun q hq => by cases hq) dX11_size_13
set_option maxHeartbeats 4000000 in
set_option maxRecDepth 100000 in
/-- X11_named -/
theorem c_X11_named (l : Launch) (dC : Nat → ClassId) (dI : Nat → Nat → Nat) (h : Nat) (g : Nat → Nat → Nat) (ca : Nat → Nat → ClassId) (a0 : Int32) (a1 : Int32) : Met l yX11_named (wc yX11_named cX11_named 3 (some .int)) ({ frames := 1, cells := 0, slots := 0, locals := 21 } : Room) (pR (dC, dI) classes [(h, .inr (11, (o11 h g))), ((g 11 2), .inr (0, (o0 h g)))] [] [.ref h, .int a0, .int a1]) (vp_Si (fun r => r = -100001)) 0 0 (fun _ => False) := by
  refine Met.ofW (cc := cX11_named) (maxL := 3) (ret := (some .int)) (by decide) rfl ?_
  intro p e s m args below meth c s₁ B hml hv
  obtain ⟨rfl, hP, hK⟩ := hv
  have hx := B.exec
  have hb := B.bytes
  have hr := B.returns
  have ht := tb_tl (atoms_spec (ws := wc yX11_named cX11_named 3 (some .int)) B.pre)
  have hown : s.vm.findClass RX11 = some m.cls := findClass_of_methodNamed B.named
  have hlocks := B.notSynchronized
  have hl := lv_entry [.ref h, .int a0, .int a1] (n := 3) (Nat.le_of_ble_eq_true rfl)
  rw [lg_entry_eq]
  generalize (lg_sl [.ref h, .int a0, .int a1] ++ List.replicate (3 - (lg_sl [.ref h, .int a0, .int a1]).length) Slot.unset).toArray = ls at hl ⊢
  have hl : lv_has ls 3 [(0, .ref h), (1, .int a0), (2, .int a1)] := hl
  refine lv_aload_n hx hb dX11_named_0 rfl (lv_at hl 0 rfl) ?_
  refine va_get (D := (dC, dI)) (ci := 11) (v := .ref (g 11 2)) (C := RX11) (T := TX11) (N := 11) hx hb ht inX11 hown hK hP 0 rfl rfl 2 (by decide) (ht _ m_417) (fun _ h9 => h9) rfl dX11_named_1 ?_
  refine lv_iload_n hx hb dX11_named_4 rfl (lv_at hl 1 rfl) ?_
  have hPc := hP.sub (ws' := [((g 11 2), .inr (0, (o0 h g)))]) [1] rfl
  have hKc := hK.sub (tys' := []) [] rfl
  refine vp_callSi (W.runV (As := [.int a0]) (rest := []) ⟨hx, hb, hml, hown, ht⟩ (c_X0_has l dC dI h g ca a0) (kV 1 ht m_472 m_473 m_474 m_80 m_475 rfl rfl hd_X0_has_v ⟨Nat.le_of_ble_eq_true rfl, Nat.le_of_ble_eq_true rfl⟩) (vR hPc hKc (va_recv hKc hPc (ci := 0) (q0 := 0) rfl rfl)) rfl rfl hl.1 rfl (lv_room (Nat.le_of_ble_eq_true rfl)) dX11_named_5 ⟨Nat.le_of_ble_eq_true rfl, Nat.le_of_ble_eq_true rfl⟩) (fun r1 hr1 => ?_)
  obtain rfl : 0 = r1 := hr1.symm
  refine lv_if_ne (tgt := 14) hx hb dX11_named_8 (by decide) (fun c2 => ?_) (fun c2 => ?_)
  · exact absurd rfl c2
  · skip
    refine lv_ldc hx hb hown (ht _ m_476) dX11_named_11 ?_
    exact W.iret (v := (-100001)) hx hb hr (fun t ht9 hW => ⟨(-100001), rfl, rfl, ht9⟩) (fun q hq => by cases hq) dX11_named_13
set_option maxHeartbeats 4000000 in
set_option maxRecDepth 100000 in
/-- X11_turns -/
theorem c_X11_turns (l : Launch) (dC : Nat → ClassId) (dI : Nat → Nat → Nat) (h : Nat) (g : Nat → Nat → Nat) (ca : Nat → Nat → ClassId) (a0 : Int32) (a1 : Int32) : Met l yX11_turns (wc yX11_turns cX11_turns 3 (some .int)) ({ frames := 1, cells := 0, slots := 0, locals := 21 } : Room) (pR (dC, dI) classes [(h, .inr (11, (o11 h g))), ((g 11 2), .inr (0, (o0 h g)))] [] [.ref h, .int a0, .int a1]) (vp_Si (fun r => r = -100001)) 0 0 (fun _ => False) := by
  refine Met.ofW (cc := cX11_turns) (maxL := 3) (ret := (some .int)) (by decide) rfl ?_
  intro p e s m args below meth c s₁ B hml hv
  obtain ⟨rfl, hP, hK⟩ := hv
  have hx := B.exec
  have hb := B.bytes
  have hr := B.returns
  have ht := tb_tl (atoms_spec (ws := wc yX11_turns cX11_turns 3 (some .int)) B.pre)
  have hown : s.vm.findClass RX11 = some m.cls := findClass_of_methodNamed B.named
  have hlocks := B.notSynchronized
  have hl := lv_entry [.ref h, .int a0, .int a1] (n := 3) (Nat.le_of_ble_eq_true rfl)
  rw [lg_entry_eq]
  generalize (lg_sl [.ref h, .int a0, .int a1] ++ List.replicate (3 - (lg_sl [.ref h, .int a0, .int a1]).length) Slot.unset).toArray = ls at hl ⊢
  have hl : lv_has ls 3 [(0, .ref h), (1, .int a0), (2, .int a1)] := hl
  refine lv_aload_n hx hb dX11_turns_0 rfl (lv_at hl 0 rfl) ?_
  refine va_get (D := (dC, dI)) (ci := 11) (v := .ref (g 11 2)) (C := RX11) (T := TX11) (N := 11) hx hb ht inX11 hown hK hP 0 rfl rfl 2 (by decide) (ht _ m_417) (fun _ h9 => h9) rfl dX11_turns_1 ?_
  refine lv_iload_n hx hb dX11_turns_4 rfl (lv_at hl 1 rfl) ?_
  have hPc := hP.sub (ws' := [((g 11 2), .inr (0, (o0 h g)))]) [1] rfl
  have hKc := hK.sub (tys' := []) [] rfl
  refine vp_callSi (W.runV (As := [.int a0]) (rest := []) ⟨hx, hb, hml, hown, ht⟩ (c_X0_has l dC dI h g ca a0) (kV 1 ht m_472 m_473 m_474 m_80 m_475 rfl rfl hd_X0_has_v ⟨Nat.le_of_ble_eq_true rfl, Nat.le_of_ble_eq_true rfl⟩) (vR hPc hKc (va_recv hKc hPc (ci := 0) (q0 := 0) rfl rfl)) rfl rfl hl.1 rfl (lv_room (Nat.le_of_ble_eq_true rfl)) dX11_turns_5 ⟨Nat.le_of_ble_eq_true rfl, Nat.le_of_ble_eq_true rfl⟩) (fun r1 hr1 => ?_)
  obtain rfl : 0 = r1 := hr1.symm
  refine lv_if_ne (tgt := 14) hx hb dX11_turns_8 (by decide) (fun c2 => ?_) (fun c2 => ?_)
  · exact absurd rfl c2
  · skip
    refine lv_ldc hx hb hown (ht _ m_476) dX11_turns_11 ?_
    exact W.iret (v := (-100001)) hx hb hr (fun t ht9 hW => ⟨(-100001), rfl, rfl, ht9⟩) (fun q hq => by cases hq) dX11_turns_13
set_option maxHeartbeats 4000000 in
set_option maxRecDepth 100000 in
/-- X11_twist -/
theorem c_X11_twist (l : Launch) (dC : Nat → ClassId) (dI : Nat → Nat → Nat) (h : Nat) (g : Nat → Nat → Nat) (ca : Nat → Nat → ClassId) (a0 : Int32) : Met l yX11_twist (wc yX11_twist cX11_twist 2 (some .int)) ({ frames := 1, cells := 0, slots := 0, locals := 21 } : Room) (pR (dC, dI) classes [(h, .inr (11, (o11 h g))), ((g 11 2), .inr (0, (o0 h g)))] [] [.ref h, .int a0]) (vp_Si (fun r => r = -100001)) 0 0 (fun _ => False) := by
  refine Met.ofW (cc := cX11_twist) (maxL := 2) (ret := (some .int)) (by decide) rfl ?_
  intro p e s m args below meth c s₁ B hml hv
  obtain ⟨rfl, hP, hK⟩ := hv
  have hx := B.exec
  have hb := B.bytes
  have hr := B.returns
  have ht := tb_tl (atoms_spec (ws := wc yX11_twist cX11_twist 2 (some .int)) B.pre)
  have hown : s.vm.findClass RX11 = some m.cls := findClass_of_methodNamed B.named
  have hlocks := B.notSynchronized
  have hl := lv_entry [.ref h, .int a0] (n := 2) (Nat.le_of_ble_eq_true rfl)
  rw [lg_entry_eq]
  generalize (lg_sl [.ref h, .int a0] ++ List.replicate (2 - (lg_sl [.ref h, .int a0]).length) Slot.unset).toArray = ls at hl ⊢
  have hl : lv_has ls 2 [(0, .ref h), (1, .int a0)] := hl
  refine lv_aload_n hx hb dX11_twist_0 rfl (lv_at hl 0 rfl) ?_
  refine va_get (D := (dC, dI)) (ci := 11) (v := .ref (g 11 2)) (C := RX11) (T := TX11) (N := 11) hx hb ht inX11 hown hK hP 0 rfl rfl 2 (by decide) (ht _ m_417) (fun _ h9 => h9) rfl dX11_twist_1 ?_
  refine lv_iload_n hx hb dX11_twist_4 rfl (lv_at hl 1 rfl) ?_
  have hPc := hP.sub (ws' := [((g 11 2), .inr (0, (o0 h g)))]) [1] rfl
  have hKc := hK.sub (tys' := []) [] rfl
  refine vp_callSi (W.runV (As := [.int a0]) (rest := []) ⟨hx, hb, hml, hown, ht⟩ (c_X0_has l dC dI h g ca a0) (kV 1 ht m_472 m_473 m_474 m_80 m_475 rfl rfl hd_X0_has_v ⟨Nat.le_of_ble_eq_true rfl, Nat.le_of_ble_eq_true rfl⟩) (vR hPc hKc (va_recv hKc hPc (ci := 0) (q0 := 0) rfl rfl)) rfl rfl hl.1 rfl (lv_room (Nat.le_of_ble_eq_true rfl)) dX11_twist_5 ⟨Nat.le_of_ble_eq_true rfl, Nat.le_of_ble_eq_true rfl⟩) (fun r1 hr1 => ?_)
  obtain rfl : 0 = r1 := hr1.symm
  refine lv_if_eq (tgt := 22) hx hb dX11_twist_8 (by decide) (fun c2 => ?_) (fun c2 => ?_)
  · skip
    refine lv_ldc hx hb hown (ht _ m_476) dX11_twist_22 ?_
    exact W.iret (v := (-100001)) hx hb hr (fun t ht9 hW => ⟨(-100001), rfl, rfl, ht9⟩) (fun q hq => by cases hq) dX11_twist_24
  · exact absurd rfl c2
set_option maxHeartbeats 4000000 in
set_option maxRecDepth 100000 in
/-- X11_burnt -/
theorem c_X11_burnt (l : Launch) (dC : Nat → ClassId) (dI : Nat → Nat → Nat) (h : Nat) (g : Nat → Nat → Nat) (ca : Nat → Nat → ClassId) (a0 : Int32) (a1 : Int32) (a2 : Int32) (a3 : Int32) : Met l yX11_burnt (wc yX11_burnt cX11_burnt 5 (some .int)) ({ frames := 1, cells := 0, slots := 0, locals := 21 } : Room) (pR (dC, dI) classes [(h, .inr (11, (o11 h g))), ((g 11 2), .inr (0, (o0 h g)))] [] [.ref h, .int a0, .int a1, .int a2, .int a3]) (vp_Si (fun r => r = -100001)) 0 0 (fun _ => False) := by
  refine Met.ofW (cc := cX11_burnt) (maxL := 5) (ret := (some .int)) (by decide) rfl ?_
  intro p e s m args below meth c s₁ B hml hv
  obtain ⟨rfl, hP, hK⟩ := hv
  have hx := B.exec
  have hb := B.bytes
  have hr := B.returns
  have ht := tb_tl (atoms_spec (ws := wc yX11_burnt cX11_burnt 5 (some .int)) B.pre)
  have hown : s.vm.findClass RX11 = some m.cls := findClass_of_methodNamed B.named
  have hlocks := B.notSynchronized
  have hl := lv_entry [.ref h, .int a0, .int a1, .int a2, .int a3] (n := 5) (Nat.le_of_ble_eq_true rfl)
  rw [lg_entry_eq]
  generalize (lg_sl [.ref h, .int a0, .int a1, .int a2, .int a3] ++ List.replicate (5 - (lg_sl [.ref h, .int a0, .int a1, .int a2, .int a3]).length) Slot.unset).toArray = ls at hl ⊢
  have hl : lv_has ls 5 [(0, .ref h), (1, .int a0), (2, .int a1), (3, .int a2), (4, .int a3)] := hl
  refine lv_aload_n hx hb dX11_burnt_0 rfl (lv_at hl 0 rfl) ?_
  refine va_get (D := (dC, dI)) (ci := 11) (v := .ref (g 11 2)) (C := RX11) (T := TX11) (N := 11) hx hb ht inX11 hown hK hP 0 rfl rfl 2 (by decide) (ht _ m_417) (fun _ h9 => h9) rfl dX11_burnt_1 ?_
  refine lv_iload_n hx hb dX11_burnt_4 rfl (lv_at hl 1 rfl) ?_
  have hPc := hP.sub (ws' := [((g 11 2), .inr (0, (o0 h g)))]) [1] rfl
  have hKc := hK.sub (tys' := []) [] rfl
  refine vp_callSi (W.runV (As := [.int a0]) (rest := []) ⟨hx, hb, hml, hown, ht⟩ (c_X0_has l dC dI h g ca a0) (kV 1 ht m_472 m_473 m_474 m_80 m_475 rfl rfl hd_X0_has_v ⟨Nat.le_of_ble_eq_true rfl, Nat.le_of_ble_eq_true rfl⟩) (vR hPc hKc (va_recv hKc hPc (ci := 0) (q0 := 0) rfl rfl)) rfl rfl hl.1 rfl (lv_room (Nat.le_of_ble_eq_true rfl)) dX11_burnt_5 ⟨Nat.le_of_ble_eq_true rfl, Nat.le_of_ble_eq_true rfl⟩) (fun r1 hr1 => ?_)
  obtain rfl : 0 = r1 := hr1.symm
  refine lv_if_ne (tgt := 14) hx hb dX11_burnt_8 (by decide) (fun c2 => ?_) (fun c2 => ?_)
  · exact absurd rfl c2
  · skip
    refine lv_ldc hx hb hown (ht _ m_476) dX11_burnt_11 ?_
    exact W.iret (v := (-100001)) hx hb hr (fun t ht9 hW => ⟨(-100001), rfl, rfl, ht9⟩) (fun q hq => by cases hq) dX11_burnt_13
