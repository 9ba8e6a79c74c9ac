set_option maxHeartbeats 4000000 in
set_option maxRecDepth 100000 in
/-- X2_init -/
theorem c_X2_init (l : Launch) (dC : Nat → ClassId) (dI : Nat → Nat → Nat) (sz : Nat) (h : Nat) (a : Nat) : Met l yX2_init (wc yX2_init cX2_init 2 none) ({ frames := 2, cells := 5, slots := 24, locals := 60 } : Room) (va_Pc [.ref h, .ref a] (fun U => U.heap.size = sz ∧ va_P (dC, dI) classes [(h, .inr (2, [.null, .null, .null, .int 0, .int 0, .int 0, .int 0, .int 0]))] U.heap ∧ va_K (dC, dI) classes [] U ∧ va_D (fun _ => True) [(h, .inr (2, [.null, .null, .null, .int 0, .int 0, .int 0, .int 0, .int 0]))] ∧ nw U)) (va_Qv (fun _ : ((Nat → Nat → Nat) × (Nat → Nat → ClassId)) => True) (fun u t => va_P (dC, dI) classes [(h, .inr (2, [.ref a, .ref (u.1 2 1), .ref (u.1 2 2), .int 0, .int 0, .int 0, .int 0, .int 0])), ((u.1 2 1), .inr (7, [.ref (u.1 20 0), .ref (u.1 20 1), .ref (u.1 20 2)])), ((u.1 20 0), .inl ((u.2 20 0), 3, .inr (.inl (fun _ => 0)))), ((u.1 20 1), .inl ((u.2 20 1), 3, .inr (.inl (fun _ => 0)))), ((u.1 20 2), .inl ((u.2 20 2), 3, .inl (fun _ => 0))), ((u.1 2 2), .inl ((u.2 2 2), 12, .inl (fun _ => 0)))] t.heap ∧ va_K (dC, dI) classes [((u.2 20 0), .long), ((u.2 20 1), .long), ((u.2 20 2), .int), ((u.2 2 2), .int)] t ∧ va_D (va_A [(h, .inr (2, [.null, .null, .null, .int 0, .int 0, .int 0, .int 0, .int 0]))] sz) [(h, .inr (2, [.ref a, .ref (u.1 2 1), .ref (u.1 2 2), .int 0, .int 0, .int 0, .int 0, .int 0])), ((u.1 2 1), .inr (7, [.ref (u.1 20 0), .ref (u.1 20 1), .ref (u.1 20 2)])), ((u.1 20 0), .inl ((u.2 20 0), 3, .inr (.inl (fun _ => 0)))), ((u.1 20 1), .inl ((u.2 20 1), 3, .inr (.inl (fun _ => 0)))), ((u.1 20 2), .inl ((u.2 20 2), 3, .inl (fun _ => 0))), ((u.1 2 2), .inl ((u.2 2 2), 12, .inl (fun _ => 0)))]) (va_A [(h, .inr (2, [.null, .null, .null, .int 0, .int 0, .int 0, .int 0, .int 0]))] sz)) 5 24 (va_A [(h, .inr (2, [.null, .null, .null, .int 0, .int 0, .int 0, .int 0, .int 0]))] sz) := by
  refine Met.ofW (cc := cX2_init) (maxL := 2) (ret := none) (by decide) rfl ?_
  intro p e s m args below meth c s₁ B hml hv
  obtain ⟨rfl, hsz, hP, hK, hD0, hN⟩ := hv
  have hx := B.exec
  have hb := B.bytes
  have hr := B.returns
  have ht := tb_tl (atoms_spec (ws := wc yX2_init cX2_init 2 none) B.pre)
  have hown : s.vm.findClass RX2 = some m.cls := findClass_of_methodNamed B.named
  have hlocks := B.notSynchronized
  have hin : meth.name = "<init>" := (name_of_methodNamed B.named B.method).1
  subst hsz
  have hD := hD0.self (sz := s.heap.size)
  generalize hAe : va_A [(h, .inr (2, [.null, .null, .null, .int 0, .int 0, .int 0, .int 0, .int 0]))] s.heap.size = A at hD ⊢
  have hA : ∀ q : Nat, s.heap.size ≤ q → A q := fun q h => by rw [← hAe]; exact Or.inr h
  have hS : va_S A s.heap s.heap [] := va_S.rf
  have hP : va_P (dC, dI) classes [(h, .inr (2, [.null, .null, .null, .int 0, .int 0, .int 0, .int 0, .int 0]))] s.heap := hP
  have hl := lv_entry [.ref h, .ref a] (n := 2) (Nat.le_of_ble_eq_true rfl)
  rw [lg_entry_eq]
  generalize (lg_sl [.ref h, .ref a] ++ List.replicate (2 - (lg_sl [.ref h, .ref a]).length) Slot.unset).toArray = ls at hl ⊢
  have hl : lv_has ls 2 [(0, .ref h), (1, .ref a)] := hl
  refine lv_aload_n hx hb dX2_init_0 rfl (lv_at hl 0 rfl) ?_
  refine W.objInit hx hb hown (ht _ m_301) (ht _ m_103) (ht _ m_104) rfl (by rw [hml]; exact hl.1) rfl dX2_init_1 (Nat.le_of_ble_eq_true rfl) (Nat.le_of_ble_eq_true rfl) ?_
  refine W.eq (g2 := F0 m 4 ls []) rfl ?_
  refine lv_aload_n hx hb dX2_init_4 rfl (lv_at hl 0 rfl) ?_
  refine va_new (ci := 7) (fs := [.null, .null, .null]) (C := RX7) (T := TX7) (N := 3) hx hb ht inX7 tyX7 tyX7_ok hown (ht _ m_302) (ht _ m_256) (ht _ m_84) hK hP hD hS hA rfl (new_X7) (Nat.le_of_ble_eq_true rfl) (Nat.le_of_ble_eq_true rfl) dX2_init_5 (fun q1 H hP hD hS => ?_)
  have hP : va_P (dC, dI) classes [(h, .inr (2, [.null, .null, .null, .int 0, .int 0, .int 0, .int 0, .int 0])), (q1, .inr (7, [.null, .null, .null]))] H := hP
  have hD : va_D A [(h, .inr (2, [.null, .null, .null, .int 0, .int 0, .int 0, .int 0, .int 0])), (q1, .inr (7, [.null, .null, .null]))] := hD
  refine W.widen (k := 1) (n := 3) (by decide) (by decide) ?_
  refine lv_dup hx hb dX2_init_8 rfl ?_
  have hPc := hP.sub (ws' := [(q1, .inr (7, [.null, .null, .null]))]) [1] rfl
  have hKc := hK.sub (tys' := []) [] rfl
  have hDc := hD.sub (ws' := [(q1, .inr (7, [.null, .null, .null]))]) [1] (by decide) rfl
  have hFc := va_free (wc := [(q1, .inr (7, [.null, .null, .null]))]) hD hS hA [1] rfl
  refine va_callv (va_runIN (As := []) (rest := [.ref q1, .ref h]) ⟨hx, hb, hml, hown, ht⟩ (c_X7_init l dC dI H.size q1) ⟨va_cnB 0 ht (tb_wc m_259) rfl rfl rfl (hN _ (List.mem_of_getElem? (l := NL) (i := 5) rfl)) (ht _ m_84) hd_X7_init_i ⟨Nat.le_of_ble_eq_true rfl, Nat.le_of_ble_eq_true rfl⟩, rfl, ht _ m_258⟩ (sW hPc hKc hDc) rfl rfl hl.1 rfl (lv_room (Nat.le_of_ble_eq_true rfl)) dX2_init_9 ⟨Nat.le_of_ble_eq_true rfl, Nat.le_of_ble_eq_true rfl⟩) hS (fun q _ h => hFc q h) hFc (fun u t H1 locs ht9 hvm hw hB hz1 hk1 hS => ?_)
  obtain ⟨g3, c3⟩ := u
  obtain ⟨hP1, hK1, hD1⟩ := hB
  rw [ht9] at hP1
  have hK1 := va_K.moved hvm.symm hK1
  have hP1 : va_P (dC, dI) classes [(q1, .inr (7, [.ref (g3 7 0), .ref (g3 7 1), .ref (g3 7 2)])), ((g3 7 0), .inl ((c3 7 0), 3, .inr (.inl (fun _ => 0)))), ((g3 7 1), .inl ((c3 7 1), 3, .inr (.inl (fun _ => 0)))), ((g3 7 2), .inl ((c3 7 2), 3, .inl (fun _ => 0)))] H1 := hP1
  have hD1 : va_D (va_A [(q1, .inr (7, [.null, .null, .null]))] H.size) [(q1, .inr (7, [.ref (g3 7 0), .ref (g3 7 1), .ref (g3 7 2)])), ((g3 7 0), .inl ((c3 7 0), 3, .inr (.inl (fun _ => 0)))), ((g3 7 1), .inl ((c3 7 1), 3, .inr (.inl (fun _ => 0)))), ((g3 7 2), .inl ((c3 7 2), 3, .inl (fun _ => 0)))] := hD1
  have hK1 : va_K (dC, dI) classes [((c3 7 0), .long), ((c3 7 1), .long), ((c3 7 2), .int)] s := hK1
  obtain ⟨hP, hD⟩ := va_join (wr := [(h, .inr (2, [.null, .null, .null, .int 0, .int 0, .int 0, .int 0, .int 0]))]) (w1 := [(q1, .inr (7, [.ref (g3 7 0), .ref (g3 7 1), .ref (g3 7 2)])), ((g3 7 0), .inl ((c3 7 0), 3, .inr (.inl (fun _ => 0)))), ((g3 7 1), .inl ((c3 7 1), 3, .inr (.inl (fun _ => 0)))), ((g3 7 2), .inl ((c3 7 2), 3, .inl (fun _ => 0)))]) hP hD [1] [0] rfl rfl (by decide) (by decide) hk1 hFc hP1 hD1
  have hK := hK.app hK1
  generalize H1 = H at hP hS ⊢
  have hP : va_P (dC, dI) classes [(h, .inr (2, [.null, .null, .null, .int 0, .int 0, .int 0, .int 0, .int 0])), (q1, .inr (7, [.ref (g3 7 0), .ref (g3 7 1), .ref (g3 7 2)])), ((g3 7 0), .inl ((c3 7 0), 3, .inr (.inl (fun _ => 0)))), ((g3 7 1), .inl ((c3 7 1), 3, .inr (.inl (fun _ => 0)))), ((g3 7 2), .inl ((c3 7 2), 3, .inl (fun _ => 0)))] H := hP
  have hD : va_D A [(h, .inr (2, [.null, .null, .null, .int 0, .int 0, .int 0, .int 0, .int 0])), (q1, .inr (7, [.ref (g3 7 0), .ref (g3 7 1), .ref (g3 7 2)])), ((g3 7 0), .inl ((c3 7 0), 3, .inr (.inl (fun _ => 0)))), ((g3 7 1), .inl ((c3 7 1), 3, .inr (.inl (fun _ => 0)))), ((g3 7 2), .inl ((c3 7 2), 3, .inl (fun _ => 0)))] := hD
  have hK : va_K (dC, dI) classes [((c3 7 0), .long), ((c3 7 1), .long), ((c3 7 2), .int)] s := hK
  refine W.widen (k := 4) (n := 12) (by decide) (by decide) ?_
  refine va_putF (D := (dC, dI)) (ci := 2) (v := .ref q1) (ty := (.object "SilkHouse$Piles")) (C := RX2) (T := TX2) (N := 8) hx hb ht inX2 tyX2 tyX2_ok nmX2 hown hK hP hD hS 0 rfl rfl 1 (by decide) (ht _ m_305) (fun _ h9 => h9) rfl hin rfl (by decide +kernel) rfl rfl (Nat.le_of_ble_eq_true rfl) dX2_init_12 (fun H locs hP hD hS => ?_)
  have hP : va_P (dC, dI) classes [(h, .inr (2, [.null, .ref q1, .null, .int 0, .int 0, .int 0, .int 0, .int 0])), (q1, .inr (7, [.ref (g3 7 0), .ref (g3 7 1), .ref (g3 7 2)])), ((g3 7 0), .inl ((c3 7 0), 3, .inr (.inl (fun _ => 0)))), ((g3 7 1), .inl ((c3 7 1), 3, .inr (.inl (fun _ => 0)))), ((g3 7 2), .inl ((c3 7 2), 3, .inl (fun _ => 0)))] H := hP
  have hD : va_D A [(h, .inr (2, [.null, .ref q1, .null, .int 0, .int 0, .int 0, .int 0, .int 0])), (q1, .inr (7, [.ref (g3 7 0), .ref (g3 7 1), .ref (g3 7 2)])), ((g3 7 0), .inl ((c3 7 0), 3, .inr (.inl (fun _ => 0)))), ((g3 7 1), .inl ((c3 7 1), 3, .inr (.inl (fun _ => 0)))), ((g3 7 2), .inl ((c3 7 2), 3, .inl (fun _ => 0)))] := hD
  refine lv_aload_n hx hb dX2_init_15 rfl (lv_at hl 0 rfl) ?_
  refine lv_bipush (v := 12) hx hb dX2_init_16 (by decide) ?_
  refine va_newa (atype := .int) (ty := .int) (a0 := (12, .inl (fun _ => 0))) (N' := 12) hx hb (ht _ m_125) rfl hK hP hD hS hA (fun _ => rfl) (by decide) (by decide) (by decide) (Nat.le_of_ble_eq_true rfl) (Nat.le_of_ble_eq_true rfl) dX2_init_18 (fun q4 ca5 H hK hP hD hS => ?_)
  have hP : va_P (dC, dI) classes [(h, .inr (2, [.null, .ref q1, .null, .int 0, .int 0, .int 0, .int 0, .int 0])), (q1, .inr (7, [.ref (g3 7 0), .ref (g3 7 1), .ref (g3 7 2)])), ((g3 7 0), .inl ((c3 7 0), 3, .inr (.inl (fun _ => 0)))), ((g3 7 1), .inl ((c3 7 1), 3, .inr (.inl (fun _ => 0)))), ((g3 7 2), .inl ((c3 7 2), 3, .inl (fun _ => 0))), (q4, .inl (ca5, 12, .inl (fun _ => 0)))] H := hP
  have hD : va_D A [(h, .inr (2, [.null, .ref q1, .null, .int 0, .int 0, .int 0, .int 0, .int 0])), (q1, .inr (7, [.ref (g3 7 0), .ref (g3 7 1), .ref (g3 7 2)])), ((g3 7 0), .inl ((c3 7 0), 3, .inr (.inl (fun _ => 0)))), ((g3 7 1), .inl ((c3 7 1), 3, .inr (.inl (fun _ => 0)))), ((g3 7 2), .inl ((c3 7 2), 3, .inl (fun _ => 0))), (q4, .inl (ca5, 12, .inl (fun _ => 0)))] := hD
  have hK : va_K (dC, dI) classes [((c3 7 0), .long), ((c3 7 1), .long), ((c3 7 2), .int), (ca5, .int)] s := hK
  refine W.widen (k := 5) (n := 24) (by decide) (by decide) ?_
  refine va_putF (D := (dC, dI)) (ci := 2) (v := .ref q4) (ty := (.array .int)) (C := RX2) (T := TX2) (N := 8) hx hb ht inX2 tyX2 tyX2_ok nmX2 hown hK hP hD hS 0 rfl rfl 2 (by decide) (ht _ m_306) (fun _ h9 => h9) rfl hin rfl (by decide +kernel) rfl rfl (Nat.le_of_ble_eq_true rfl) dX2_init_20 (fun H locs hP hD hS => ?_)
  have hP : va_P (dC, dI) classes [(h, .inr (2, [.null, .ref q1, .ref q4, .int 0, .int 0, .int 0, .int 0, .int 0])), (q1, .inr (7, [.ref (g3 7 0), .ref (g3 7 1), .ref (g3 7 2)])), ((g3 7 0), .inl ((c3 7 0), 3, .inr (.inl (fun _ => 0)))), ((g3 7 1), .inl ((c3 7 1), 3, .inr (.inl (fun _ => 0)))), ((g3 7 2), .inl ((c3 7 2), 3, .inl (fun _ => 0))), (q4, .inl (ca5, 12, .inl (fun _ => 0)))] H := hP
  have hD : va_D A [(h, .inr (2, [.null, .ref q1, .ref q4, .int 0, .int 0, .int 0, .int 0, .int 0])), (q1, .inr (7, [.ref (g3 7 0), .ref (g3 7 1), .ref (g3 7 2)])), ((g3 7 0), .inl ((c3 7 0), 3, .inr (.inl (fun _ => 0)))), ((g3 7 1), .inl ((c3 7 1), 3, .inr (.inl (fun _ => 0)))), ((g3 7 2), .inl ((c3 7 2), 3, .inl (fun _ => 0))), (q4, .inl (ca5, 12, .inl (fun _ => 0)))] := hD
  refine lv_aload_n hx hb dX2_init_23 rfl (lv_at hl 0 rfl) ?_
  refine lv_iconst (v := 0) hx hb dX2_init_24 (by decide) ?_
  refine va_put (D := (dC, dI)) (ci := 2) (v := .int 0) (ty := (.int)) (C := RX2) (T := TX2) (N := 8) hx hb ht inX2 tyX2 tyX2_ok nmX2 hown hK hP hD hS 0 rfl rfl 3 (by decide) (ht _ m_307) (fun _ h9 => h9) rfl (by decide +kernel) rfl rfl (Nat.le_of_ble_eq_true rfl) dX2_init_25 (fun H locs hP hD hS => ?_)
  have hP : va_P (dC, dI) classes [(h, .inr (2, [.null, .ref q1, .ref q4, .int 0, .int 0, .int 0, .int 0, .int 0])), (q1, .inr (7, [.ref (g3 7 0), .ref (g3 7 1), .ref (g3 7 2)])), ((g3 7 0), .inl ((c3 7 0), 3, .inr (.inl (fun _ => 0)))), ((g3 7 1), .inl ((c3 7 1), 3, .inr (.inl (fun _ => 0)))), ((g3 7 2), .inl ((c3 7 2), 3, .inl (fun _ => 0))), (q4, .inl (ca5, 12, .inl (fun _ => 0)))] H := hP
  have hD : va_D A [(h, .inr (2, [.null, .ref q1, .ref q4, .int 0, .int 0, .int 0, .int 0, .int 0])), (q1, .inr (7, [.ref (g3 7 0), .ref (g3 7 1), .ref (g3 7 2)])), ((g3 7 0), .inl ((c3 7 0), 3, .inr (.inl (fun _ => 0)))), ((g3 7 1), .inl ((c3 7 1), 3, .inr (.inl (fun _ => 0)))), ((g3 7 2), .inl ((c3 7 2), 3, .inl (fun _ => 0))), (q4, .inl (ca5, 12, .inl (fun _ => 0)))] := hD
  refine lv_aload_n hx hb dX2_init_28 rfl (lv_at hl 0 rfl) ?_
  refine lv_iconst (v := 0) hx hb dX2_init_29 (by decide) ?_
  refine va_put (D := (dC, dI)) (ci := 2) (v := .int 0) (ty := (.int)) (C := RX2) (T := TX2) (N := 8) hx hb ht inX2 tyX2 tyX2_ok nmX2 hown hK hP hD hS 0 rfl rfl 4 (by decide) (ht _ m_308) (fun _ h9 => h9) rfl (by decide +kernel) rfl rfl (Nat.le_of_ble_eq_true rfl) dX2_init_30 (fun H locs hP hD hS => ?_)
  have hP : va_P (dC, dI) classes [(h, .inr (2, [.null, .ref q1, .ref q4, .int 0, .int 0, .int 0, .int 0, .int 0])), (q1, .inr (7, [.ref (g3 7 0), .ref (g3 7 1), .ref (g3 7 2)])), ((g3 7 0), .inl ((c3 7 0), 3, .inr (.inl (fun _ => 0)))), ((g3 7 1), .inl ((c3 7 1), 3, .inr (.inl (fun _ => 0)))), ((g3 7 2), .inl ((c3 7 2), 3, .inl (fun _ => 0))), (q4, .inl (ca5, 12, .inl (fun _ => 0)))] H := hP
  have hD : va_D A [(h, .inr (2, [.null, .ref q1, .ref q4, .int 0, .int 0, .int 0, .int 0, .int 0])), (q1, .inr (7, [.ref (g3 7 0), .ref (g3 7 1), .ref (g3 7 2)])), ((g3 7 0), .inl ((c3 7 0), 3, .inr (.inl (fun _ => 0)))), ((g3 7 1), .inl ((c3 7 1), 3, .inr (.inl (fun _ => 0)))), ((g3 7 2), .inl ((c3 7 2), 3, .inl (fun _ => 0))), (q4, .inl (ca5, 12, .inl (fun _ => 0)))] := hD
  refine lv_aload_n hx hb dX2_init_33 rfl (lv_at hl 0 rfl) ?_
  refine lv_iconst (v := 0) hx hb dX2_init_34 (by decide) ?_
  refine va_put (D := (dC, dI)) (ci := 2) (v := .int 0) (ty := (.int)) (C := RX2) (T := TX2) (N := 8) hx hb ht inX2 tyX2 tyX2_ok nmX2 hown hK hP hD hS 0 rfl rfl 5 (by decide) (ht _ m_309) (fun _ h9 => h9) rfl (by decide +kernel) rfl rfl (Nat.le_of_ble_eq_true rfl) dX2_init_35 (fun H locs hP hD hS => ?_)
  have hP : va_P (dC, dI) classes [(h, .inr (2, [.null, .ref q1, .ref q4, .int 0, .int 0, .int 0, .int 0, .int 0])), (q1, .inr (7, [.ref (g3 7 0), .ref (g3 7 1), .ref (g3 7 2)])), ((g3 7 0), .inl ((c3 7 0), 3, .inr (.inl (fun _ => 0)))), ((g3 7 1), .inl ((c3 7 1), 3, .inr (.inl (fun _ => 0)))), ((g3 7 2), .inl ((c3 7 2), 3, .inl (fun _ => 0))), (q4, .inl (ca5, 12, .inl (fun _ => 0)))] H := hP
  have hD : va_D A [(h, .inr (2, [.null, .ref q1, .ref q4, .int 0, .int 0, .int 0, .int 0, .int 0])), (q1, .inr (7, [.ref (g3 7 0), .ref (g3 7 1), .ref (g3 7 2)])), ((g3 7 0), .inl ((c3 7 0), 3, .inr (.inl (fun _ => 0)))), ((g3 7 1), .inl ((c3 7 1), 3, .inr (.inl (fun _ => 0)))), ((g3 7 2), .inl ((c3 7 2), 3, .inl (fun _ => 0))), (q4, .inl (ca5, 12, .inl (fun _ => 0)))] := hD
  refine lv_aload_n hx hb dX2_init_38 rfl (lv_at hl 0 rfl) ?_
  refine lv_iconst (v := 0) hx hb dX2_init_39 (by decide) ?_
  refine va_put (D := (dC, dI)) (ci := 2) (v := .int 0) (ty := (.int)) (C := RX2) (T := TX2) (N := 8) hx hb ht inX2 tyX2 tyX2_ok nmX2 hown hK hP hD hS 0 rfl rfl 6 (by decide) (ht _ m_310) (fun _ h9 => h9) rfl (by decide +kernel) rfl rfl (Nat.le_of_ble_eq_true rfl) dX2_init_40 (fun H locs hP hD hS => ?_)
  have hP : va_P (dC, dI) classes [(h, .inr (2, [.null, .ref q1, .ref q4, .int 0, .int 0, .int 0, .int 0, .int 0])), (q1, .inr (7, [.ref (g3 7 0), .ref (g3 7 1), .ref (g3 7 2)])), ((g3 7 0), .inl ((c3 7 0), 3, .inr (.inl (fun _ => 0)))), ((g3 7 1), .inl ((c3 7 1), 3, .inr (.inl (fun _ => 0)))), ((g3 7 2), .inl ((c3 7 2), 3, .inl (fun _ => 0))), (q4, .inl (ca5, 12, .inl (fun _ => 0)))] H := hP
  have hD : va_D A [(h, .inr (2, [.null, .ref q1, .ref q4, .int 0, .int 0, .int 0, .int 0, .int 0])), (q1, .inr (7, [.ref (g3 7 0), .ref (g3 7 1), .ref (g3 7 2)])), ((g3 7 0), .inl ((c3 7 0), 3, .inr (.inl (fun _ => 0)))), ((g3 7 1), .inl ((c3 7 1), 3, .inr (.inl (fun _ => 0)))), ((g3 7 2), .inl ((c3 7 2), 3, .inl (fun _ => 0))), (q4, .inl (ca5, 12, .inl (fun _ => 0)))] := hD
  refine lv_aload_n hx hb dX2_init_43 rfl (lv_at hl 0 rfl) ?_
  refine lv_iconst (v := 0) hx hb dX2_init_44 (by decide) ?_
  refine va_put (D := (dC, dI)) (ci := 2) (v := .int 0) (ty := (.int)) (C := RX2) (T := TX2) (N := 8) hx hb ht inX2 tyX2 tyX2_ok nmX2 hown hK hP hD hS 0 rfl rfl 7 (by decide) (ht _ m_311) (fun _ h9 => h9) rfl (by decide +kernel) rfl rfl (Nat.le_of_ble_eq_true rfl) dX2_init_45 (fun H locs hP hD hS => ?_)
  have hP : va_P (dC, dI) classes [(h, .inr (2, [.null, .ref q1, .ref q4, .int 0, .int 0, .int 0, .int 0, .int 0])), (q1, .inr (7, [.ref (g3 7 0), .ref (g3 7 1), .ref (g3 7 2)])), ((g3 7 0), .inl ((c3 7 0), 3, .inr (.inl (fun _ => 0)))), ((g3 7 1), .inl ((c3 7 1), 3, .inr (.inl (fun _ => 0)))), ((g3 7 2), .inl ((c3 7 2), 3, .inl (fun _ => 0))), (q4, .inl (ca5, 12, .inl (fun _ => 0)))] H := hP
  have hD : va_D A [(h, .inr (2, [.null, .ref q1, .ref q4, .int 0, .int 0, .int 0, .int 0, .int 0])), (q1, .inr (7, [.ref (g3 7 0), .ref (g3 7 1), .ref (g3 7 2)])), ((g3 7 0), .inl ((c3 7 0), 3, .inr (.inl (fun _ => 0)))), ((g3 7 1), .inl ((c3 7 1), 3, .inr (.inl (fun _ => 0)))), ((g3 7 2), .inl ((c3 7 2), 3, .inl (fun _ => 0))), (q4, .inl (ca5, 12, .inl (fun _ => 0)))] := hD
  refine lv_aload_n hx hb dX2_init_48 rfl (lv_at hl 0 rfl) ?_
  refine lv_aload_n hx hb dX2_init_49 rfl (lv_at hl 1 rfl) ?_
  refine va_putF (D := (dC, dI)) (ci := 2) (v := .ref a) (ty := (.object "SilkHouse$Skeins")) (C := RX2) (T := TX2) (N := 8) hx hb ht inX2 tyX2 tyX2_ok nmX2 hown hK hP hD hS 0 rfl rfl 0 (by decide) (ht _ m_304) (fun _ h9 => h9) rfl hin rfl (by decide +kernel) rfl rfl (Nat.le_of_ble_eq_true rfl) dX2_init_50 (fun H locs hP hD hS => ?_)
  have hP : va_P (dC, dI) classes [(h, .inr (2, [.ref a, .ref q1, .ref q4, .int 0, .int 0, .int 0, .int 0, .int 0])), (q1, .inr (7, [.ref (g3 7 0), .ref (g3 7 1), .ref (g3 7 2)])), ((g3 7 0), .inl ((c3 7 0), 3, .inr (.inl (fun _ => 0)))), ((g3 7 1), .inl ((c3 7 1), 3, .inr (.inl (fun _ => 0)))), ((g3 7 2), .inl ((c3 7 2), 3, .inl (fun _ => 0))), (q4, .inl (ca5, 12, .inl (fun _ => 0)))] H := hP
  have hD : va_D A [(h, .inr (2, [.ref a, .ref q1, .ref q4, .int 0, .int 0, .int 0, .int 0, .int 0])), (q1, .inr (7, [.ref (g3 7 0), .ref (g3 7 1), .ref (g3 7 2)])), ((g3 7 0), .inl ((c3 7 0), 3, .inr (.inl (fun _ => 0)))), ((g3 7 1), .inl ((c3 7 1), 3, .inr (.inl (fun _ => 0)))), ((g3 7 2), .inl ((c3 7 2), 3, .inl (fun _ => 0))), (q4, .inl (ca5, 12, .inl (fun _ => 0)))] := hD
  have hP9 := hP.sub (ws' := [(h, .inr (2, [.ref a, .ref q1, .ref q4, .int 0, .int 0, .int 0, .int 0, .int 0])), (q1, .inr (7, [.ref (g3 7 0), .ref (g3 7 1), .ref (g3 7 2)])), ((g3 7 0), .inl ((c3 7 0), 3, .inr (.inl (fun _ => 0)))), ((g3 7 1), .inl ((c3 7 1), 3, .inr (.inl (fun _ => 0)))), ((g3 7 2), .inl ((c3 7 2), 3, .inl (fun _ => 0))), (q4, .inl (ca5, 12, .inl (fun _ => 0)))]) [0, 1, 2, 3, 4, 5] rfl
  have hD9 := hD.sub (ws' := [(h, .inr (2, [.ref a, .ref q1, .ref q4, .int 0, .int 0, .int 0, .int 0, .int 0])), (q1, .inr (7, [.ref (g3 7 0), .ref (g3 7 1), .ref (g3 7 2)])), ((g3 7 0), .inl ((c3 7 0), 3, .inr (.inl (fun _ => 0)))), ((g3 7 1), .inl ((c3 7 1), 3, .inr (.inl (fun _ => 0)))), ((g3 7 2), .inl ((c3 7 2), 3, .inl (fun _ => 0))), (q4, .inl (ca5, 12, .inl (fun _ => 0)))]) [0, 1, 2, 3, 4, 5] (by decide) rfl
  have hK9 := hK.sub (tys' := [((c3 7 0), .long), ((c3 7 1), .long), ((c3 7 2), .int), (ca5, .int)]) [0, 1, 2, 3] rfl
  obtain ⟨u9, hu9⟩ : ∃ u : (Nat → Nat → Nat) × (Nat → Nat → ClassId), u = ((fun i j => (([[], [], [0, q1, q4], [], [], [], [], [], [], [], [], [], [], [], [], [], [], [], [], [], [(g3 7 0), (g3 7 1), (g3 7 2)]] : List (List _)).getD i []).getD j 0), (fun i j => (([[], [], [(c3 7 0), (c3 7 0), ca5], [], [], [], [], [], [], [], [], [], [], [], [], [], [], [], [], [], [(c3 7 0), (c3 7 1), (c3 7 2)]] : List (List _)).getD i []).getD j (c3 7 0))) := ⟨_, rfl⟩
  have hB9 : ∀ t : State, t.heap = H → s.WarmedH t.vm → (fun u t => va_P (dC, dI) classes [(h, .inr (2, [.ref a, .ref (u.1 2 1), .ref (u.1 2 2), .int 0, .int 0, .int 0, .int 0, .int 0])), ((u.1 2 1), .inr (7, [.ref (u.1 20 0), .ref (u.1 20 1), .ref (u.1 20 2)])), ((u.1 20 0), .inl ((u.2 20 0), 3, .inr (.inl (fun _ => 0)))), ((u.1 20 1), .inl ((u.2 20 1), 3, .inr (.inl (fun _ => 0)))), ((u.1 20 2), .inl ((u.2 20 2), 3, .inl (fun _ => 0))), ((u.1 2 2), .inl ((u.2 2 2), 12, .inl (fun _ => 0)))] t.heap ∧ va_K (dC, dI) classes [((u.2 20 0), .long), ((u.2 20 1), .long), ((u.2 20 2), .int), ((u.2 2 2), .int)] t ∧ va_D A [(h, .inr (2, [.ref a, .ref (u.1 2 1), .ref (u.1 2 2), .int 0, .int 0, .int 0, .int 0, .int 0])), ((u.1 2 1), .inr (7, [.ref (u.1 20 0), .ref (u.1 20 1), .ref (u.1 20 2)])), ((u.1 20 0), .inl ((u.2 20 0), 3, .inr (.inl (fun _ => 0)))), ((u.1 20 1), .inl ((u.2 20 1), 3, .inr (.inl (fun _ => 0)))), ((u.1 20 2), .inl ((u.2 20 2), 3, .inl (fun _ => 0))), ((u.1 2 2), .inl ((u.2 2 2), 12, .inl (fun _ => 0)))]) u9 t := by
    intro t ht9 hW
    rw [hu9]
    exact ⟨by rw [ht9]; exact hP9, va_K.moved hW.alike hK9, hD9⟩
  exact W.vret hx hb hr (fun t ht9 hW => ⟨⟨u9, rfl, trivial, hB9 t ht9 hW⟩, hS.F ht9⟩) hS.2.2 dX2_init_53
set_option maxHeartbeats 4000000 in
set_option maxRecDepth 100000 in
/-- X5_init -/
theorem c_X5_init (l : Launch) (dC : Nat → ClassId) (dI : Nat → Nat → Nat) (sz : Nat) (h : Nat) : Met l yX5_init (wc yX5_init cX5_init 1 none) ({ frames := 1, cells := 4, slots := 27, locals := 40 } : Room) (pW (dC, dI) classes [(h, .inr (5, [.null, .null, .null, .null, .int 0, .int 0, .int 0]))] [] sz [.ref h]) (va_Qv (fun _ : ((Nat → Nat → Nat) × (Nat → Nat → ClassId)) => True) (fun u t => va_P (dC, dI) classes [(h, .inr (5, [.ref (u.1 5 0), .ref (u.1 5 1), .ref (u.1 5 2), .ref (u.1 5 3), .int 0, .int 0, .int 0])), ((u.1 5 0), .inl ((u.2 5 0), 8, .inl (fun _ => 0))), ((u.1 5 1), .inl ((u.2 5 1), 8, .inl (fun _ => 0))), ((u.1 5 2), .inl ((u.2 5 2), 3, .inl (fun _ => 0))), ((u.1 5 3), .inl ((u.2 5 3), 8, .inl (fun _ => 0)))] t.heap ∧ va_K (dC, dI) classes [((u.2 5 0), .int), ((u.2 5 1), .int), ((u.2 5 2), .int), ((u.2 5 3), .int)] t ∧ va_D (va_A [(h, .inr (5, [.null, .null, .null, .null, .int 0, .int 0, .int 0]))] sz) [(h, .inr (5, [.ref (u.1 5 0), .ref (u.1 5 1), .ref (u.1 5 2), .ref (u.1 5 3), .int 0, .int 0, .int 0])), ((u.1 5 0), .inl ((u.2 5 0), 8, .inl (fun _ => 0))), ((u.1 5 1), .inl ((u.2 5 1), 8, .inl (fun _ => 0))), ((u.1 5 2), .inl ((u.2 5 2), 3, .inl (fun _ => 0))), ((u.1 5 3), .inl ((u.2 5 3), 8, .inl (fun _ => 0)))]) (va_A [(h, .inr (5, [.null, .null, .null, .null, .int 0, .int 0, .int 0]))] sz)) 4 27 (va_A [(h, .inr (5, [.null, .null, .null, .null, .int 0, .int 0, .int 0]))] sz) := by
  refine Met.ofW (cc := cX5_init) (maxL := 1) (ret := none) (by decide) rfl ?_
  intro p e s m args below meth c s₁ B hml hv
  obtain ⟨rfl, hsz, hP, hK, hD0⟩ := hv
  have hx := B.exec
  have hb := B.bytes
  have hr := B.returns
  have ht := tb_tl (atoms_spec (ws := wc yX5_init cX5_init 1 none) B.pre)
  have hown : s.vm.findClass RX5 = some m.cls := findClass_of_methodNamed B.named
  have hlocks := B.notSynchronized
  have hin : meth.name = "<init>" := (name_of_methodNamed B.named B.method).1
  subst hsz
  have hD := hD0.self (sz := s.heap.size)
  generalize hAe : va_A [(h, .inr (5, [.null, .null, .null, .null, .int 0, .int 0, .int 0]))] s.heap.size = A at hD ⊢
  have hA : ∀ q : Nat, s.heap.size ≤ q → A q := fun q h => by rw [← hAe]; exact Or.inr h
  have hS : va_S A s.heap s.heap [] := va_S.rf
  have hP : va_P (dC, dI) classes [(h, .inr (5, [.null, .null, .null, .null, .int 0, .int 0, .int 0]))] s.heap := hP
  have hl := lv_entry [.ref h] (n := 1) (Nat.le_of_ble_eq_true rfl)
  rw [lg_entry_eq]
  generalize (lg_sl [.ref h] ++ List.replicate (1 - (lg_sl [.ref h]).length) Slot.unset).toArray = ls at hl ⊢
  have hl : lv_has ls 1 [(0, .ref h)] := hl
  refine lv_aload_n hx hb dX5_init_0 rfl (lv_at hl 0 rfl) ?_
  refine W.objInit hx hb hown (ht _ m_334) (ht _ m_103) (ht _ m_104) rfl (by rw [hml]; exact hl.1) rfl dX5_init_1 (Nat.le_of_ble_eq_true rfl) (Nat.le_of_ble_eq_true rfl) ?_
  refine W.eq (g2 := F0 m 4 ls []) rfl ?_
  refine lv_aload_n hx hb dX5_init_4 rfl (lv_at hl 0 rfl) ?_
  refine lv_bipush (v := 8) hx hb dX5_init_5 (by decide) ?_
  refine va_newa (atype := .int) (ty := .int) (a0 := (8, .inl (fun _ => 0))) (N' := 8) hx hb (ht _ m_125) rfl hK hP hD hS hA (fun _ => rfl) (by decide) (by decide) (by decide) (Nat.le_of_ble_eq_true rfl) (Nat.le_of_ble_eq_true rfl) dX5_init_7 (fun q1 ca2 H hK hP hD hS => ?_)
  have hP : va_P (dC, dI) classes [(h, .inr (5, [.null, .null, .null, .null, .int 0, .int 0, .int 0])), (q1, .inl (ca2, 8, .inl (fun _ => 0)))] H := hP
  have hD : va_D A [(h, .inr (5, [.null, .null, .null, .null, .int 0, .int 0, .int 0])), (q1, .inl (ca2, 8, .inl (fun _ => 0)))] := hD
  have hK : va_K (dC, dI) classes [(ca2, .int)] s := hK
  refine W.widen (k := 1) (n := 8) (by decide) (by decide) ?_
  refine va_putF (D := (dC, dI)) (ci := 5) (v := .ref q1) (ty := (.array .int)) (C := RX5) (T := TX5) (N := 7) hx hb ht inX5 tyX5 tyX5_ok nmX5 hown hK hP hD hS 0 rfl rfl 0 (by decide) (ht _ m_335) (fun _ h9 => h9) rfl hin rfl (by decide +kernel) rfl rfl (Nat.le_of_ble_eq_true rfl) dX5_init_9 (fun H locs hP hD hS => ?_)
  have hP : va_P (dC, dI) classes [(h, .inr (5, [.ref q1, .null, .null, .null, .int 0, .int 0, .int 0])), (q1, .inl (ca2, 8, .inl (fun _ => 0)))] H := hP
  have hD : va_D A [(h, .inr (5, [.ref q1, .null, .null, .null, .int 0, .int 0, .int 0])), (q1, .inl (ca2, 8, .inl (fun _ => 0)))] := hD
  refine lv_aload_n hx hb dX5_init_12 rfl (lv_at hl 0 rfl) ?_
  refine lv_bipush (v := 8) hx hb dX5_init_13 (by decide) ?_
  refine va_newa (atype := .int) (ty := .int) (a0 := (8, .inl (fun _ => 0))) (N' := 8) hx hb (ht _ m_125) rfl hK hP hD hS hA (fun _ => rfl) (by decide) (by decide) (by decide) (Nat.le_of_ble_eq_true rfl) (Nat.le_of_ble_eq_true rfl) dX5_init_15 (fun q3 ca4 H hK hP hD hS => ?_)
  have hP : va_P (dC, dI) classes [(h, .inr (5, [.ref q1, .null, .null, .null, .int 0, .int 0, .int 0])), (q1, .inl (ca2, 8, .inl (fun _ => 0))), (q3, .inl (ca4, 8, .inl (fun _ => 0)))] H := hP
  have hD : va_D A [(h, .inr (5, [.ref q1, .null, .null, .null, .int 0, .int 0, .int 0])), (q1, .inl (ca2, 8, .inl (fun _ => 0))), (q3, .inl (ca4, 8, .inl (fun _ => 0)))] := hD
  have hK : va_K (dC, dI) classes [(ca2, .int), (ca4, .int)] s := hK
  refine W.widen (k := 2) (n := 16) (by decide) (by decide) ?_
  refine va_putF (D := (dC, dI)) (ci := 5) (v := .ref q3) (ty := (.array .int)) (C := RX5) (T := TX5) (N := 7) hx hb ht inX5 tyX5 tyX5_ok nmX5 hown hK hP hD hS 0 rfl rfl 1 (by decide) (ht _ m_336) (fun _ h9 => h9) rfl hin rfl (by decide +kernel) rfl rfl (Nat.le_of_ble_eq_true rfl) dX5_init_17 (fun H locs hP hD hS => ?_)
  have hP : va_P (dC, dI) classes [(h, .inr (5, [.ref q1, .ref q3, .null, .null, .int 0, .int 0, .int 0])), (q1, .inl (ca2, 8, .inl (fun _ => 0))), (q3, .inl (ca4, 8, .inl (fun _ => 0)))] H := hP
  have hD : va_D A [(h, .inr (5, [.ref q1, .ref q3, .null, .null, .int 0, .int 0, .int 0])), (q1, .inl (ca2, 8, .inl (fun _ => 0))), (q3, .inl (ca4, 8, .inl (fun _ => 0)))] := hD
  refine lv_aload_n hx hb dX5_init_20 rfl (lv_at hl 0 rfl) ?_
  refine lv_iconst (v := 3) hx hb dX5_init_21 (by decide) ?_
  refine va_newa (atype := .int) (ty := .int) (a0 := (3, .inl (fun _ => 0))) (N' := 3) hx hb (ht _ m_125) rfl hK hP hD hS hA (fun _ => rfl) (by decide) (by decide) (by decide) (Nat.le_of_ble_eq_true rfl) (Nat.le_of_ble_eq_true rfl) dX5_init_22 (fun q5 ca6 H hK hP hD hS => ?_)
  have hP : va_P (dC, dI) classes [(h, .inr (5, [.ref q1, .ref q3, .null, .null, .int 0, .int 0, .int 0])), (q1, .inl (ca2, 8, .inl (fun _ => 0))), (q3, .inl (ca4, 8, .inl (fun _ => 0))), (q5, .inl (ca6, 3, .inl (fun _ => 0)))] H := hP
  have hD : va_D A [(h, .inr (5, [.ref q1, .ref q3, .null, .null, .int 0, .int 0, .int 0])), (q1, .inl (ca2, 8, .inl (fun _ => 0))), (q3, .inl (ca4, 8, .inl (fun _ => 0))), (q5, .inl (ca6, 3, .inl (fun _ => 0)))] := hD
  have hK : va_K (dC, dI) classes [(ca2, .int), (ca4, .int), (ca6, .int)] s := hK
  refine W.widen (k := 3) (n := 19) (by decide) (by decide) ?_
  refine va_putF (D := (dC, dI)) (ci := 5) (v := .ref q5) (ty := (.array .int)) (C := RX5) (T := TX5) (N := 7) hx hb ht inX5 tyX5 tyX5_ok nmX5 hown hK hP hD hS 0 rfl rfl 2 (by decide) (ht _ m_337) (fun _ h9 => h9) rfl hin rfl (by decide +kernel) rfl rfl (Nat.le_of_ble_eq_true rfl) dX5_init_24 (fun H locs hP hD hS => ?_)
  have hP : va_P (dC, dI) classes [(h, .inr (5, [.ref q1, .ref q3, .ref q5, .null, .int 0, .int 0, .int 0])), (q1, .inl (ca2, 8, .inl (fun _ => 0))), (q3, .inl (ca4, 8, .inl (fun _ => 0))), (q5, .inl (ca6, 3, .inl (fun _ => 0)))] H := hP
  have hD : va_D A [(h, .inr (5, [.ref q1, .ref q3, .ref q5, .null, .int 0, .int 0, .int 0])), (q1, .inl (ca2, 8, .inl (fun _ => 0))), (q3, .inl (ca4, 8, .inl (fun _ => 0))), (q5, .inl (ca6, 3, .inl (fun _ => 0)))] := hD
  refine lv_aload_n hx hb dX5_init_27 rfl (lv_at hl 0 rfl) ?_
  refine lv_bipush (v := 8) hx hb dX5_init_28 (by decide) ?_
  refine va_newa (atype := .int) (ty := .int) (a0 := (8, .inl (fun _ => 0))) (N' := 8) hx hb (ht _ m_125) rfl hK hP hD hS hA (fun _ => rfl) (by decide) (by decide) (by decide) (Nat.le_of_ble_eq_true rfl) (Nat.le_of_ble_eq_true rfl) dX5_init_30 (fun q7 ca8 H hK hP hD hS => ?_)
  have hP : va_P (dC, dI) classes [(h, .inr (5, [.ref q1, .ref q3, .ref q5, .null, .int 0, .int 0, .int 0])), (q1, .inl (ca2, 8, .inl (fun _ => 0))), (q3, .inl (ca4, 8, .inl (fun _ => 0))), (q5, .inl (ca6, 3, .inl (fun _ => 0))), (q7, .inl (ca8, 8, .inl (fun _ => 0)))] H := hP
  have hD : va_D A [(h, .inr (5, [.ref q1, .ref q3, .ref q5, .null, .int 0, .int 0, .int 0])), (q1, .inl (ca2, 8, .inl (fun _ => 0))), (q3, .inl (ca4, 8, .inl (fun _ => 0))), (q5, .inl (ca6, 3, .inl (fun _ => 0))), (q7, .inl (ca8, 8, .inl (fun _ => 0)))] := hD
  have hK : va_K (dC, dI) classes [(ca2, .int), (ca4, .int), (ca6, .int), (ca8, .int)] s := hK
  refine W.widen (k := 4) (n := 27) (by decide) (by decide) ?_
  refine va_putF (D := (dC, dI)) (ci := 5) (v := .ref q7) (ty := (.array .int)) (C := RX5) (T := TX5) (N := 7) hx hb ht inX5 tyX5 tyX5_ok nmX5 hown hK hP hD hS 0 rfl rfl 3 (by decide) (ht _ m_338) (fun _ h9 => h9) rfl hin rfl (by decide +kernel) rfl rfl (Nat.le_of_ble_eq_true rfl) dX5_init_32 (fun H locs hP hD hS => ?_)
  have hP : va_P (dC, dI) classes [(h, .inr (5, [.ref q1, .ref q3, .ref q5, .ref q7, .int 0, .int 0, .int 0])), (q1, .inl (ca2, 8, .inl (fun _ => 0))), (q3, .inl (ca4, 8, .inl (fun _ => 0))), (q5, .inl (ca6, 3, .inl (fun _ => 0))), (q7, .inl (ca8, 8, .inl (fun _ => 0)))] H := hP
  have hD : va_D A [(h, .inr (5, [.ref q1, .ref q3, .ref q5, .ref q7, .int 0, .int 0, .int 0])), (q1, .inl (ca2, 8, .inl (fun _ => 0))), (q3, .inl (ca4, 8, .inl (fun _ => 0))), (q5, .inl (ca6, 3, .inl (fun _ => 0))), (q7, .inl (ca8, 8, .inl (fun _ => 0)))] := hD
  refine lv_aload_n hx hb dX5_init_35 rfl (lv_at hl 0 rfl) ?_
  refine lv_iconst (v := 0) hx hb dX5_init_36 (by decide) ?_
  refine va_put (D := (dC, dI)) (ci := 5) (v := .int 0) (ty := (.int)) (C := RX5) (T := TX5) (N := 7) hx hb ht inX5 tyX5 tyX5_ok nmX5 hown hK hP hD hS 0 rfl rfl 4 (by decide) (ht _ m_340) (fun _ h9 => h9) rfl (by decide +kernel) rfl rfl (Nat.le_of_ble_eq_true rfl) dX5_init_37 (fun H locs hP hD hS => ?_)
  have hP : va_P (dC, dI) classes [(h, .inr (5, [.ref q1, .ref q3, .ref q5, .ref q7, .int 0, .int 0, .int 0])), (q1, .inl (ca2, 8, .inl (fun _ => 0))), (q3, .inl (ca4, 8, .inl (fun _ => 0))), (q5, .inl (ca6, 3, .inl (fun _ => 0))), (q7, .inl (ca8, 8, .inl (fun _ => 0)))] H := hP
  have hD : va_D A [(h, .inr (5, [.ref q1, .ref q3, .ref q5, .ref q7, .int 0, .int 0, .int 0])), (q1, .inl (ca2, 8, .inl (fun _ => 0))), (q3, .inl (ca4, 8, .inl (fun _ => 0))), (q5, .inl (ca6, 3, .inl (fun _ => 0))), (q7, .inl (ca8, 8, .inl (fun _ => 0)))] := hD
  refine lv_aload_n hx hb dX5_init_40 rfl (lv_at hl 0 rfl) ?_
  refine lv_iconst (v := 0) hx hb dX5_init_41 (by decide) ?_
  refine va_put (D := (dC, dI)) (ci := 5) (v := .int 0) (ty := (.int)) (C := RX5) (T := TX5) (N := 7) hx hb ht inX5 tyX5 tyX5_ok nmX5 hown hK hP hD hS 0 rfl rfl 5 (by decide) (ht _ m_342) (fun _ h9 => h9) rfl (by decide +kernel) rfl rfl (Nat.le_of_ble_eq_true rfl) dX5_init_42 (fun H locs hP hD hS => ?_)
  have hP : va_P (dC, dI) classes [(h, .inr (5, [.ref q1, .ref q3, .ref q5, .ref q7, .int 0, .int 0, .int 0])), (q1, .inl (ca2, 8, .inl (fun _ => 0))), (q3, .inl (ca4, 8, .inl (fun _ => 0))), (q5, .inl (ca6, 3, .inl (fun _ => 0))), (q7, .inl (ca8, 8, .inl (fun _ => 0)))] H := hP
  have hD : va_D A [(h, .inr (5, [.ref q1, .ref q3, .ref q5, .ref q7, .int 0, .int 0, .int 0])), (q1, .inl (ca2, 8, .inl (fun _ => 0))), (q3, .inl (ca4, 8, .inl (fun _ => 0))), (q5, .inl (ca6, 3, .inl (fun _ => 0))), (q7, .inl (ca8, 8, .inl (fun _ => 0)))] := hD
  refine lv_aload_n hx hb dX5_init_45 rfl (lv_at hl 0 rfl) ?_
  refine lv_iconst (v := 0) hx hb dX5_init_46 (by decide) ?_
  refine va_put (D := (dC, dI)) (ci := 5) (v := .int 0) (ty := (.int)) (C := RX5) (T := TX5) (N := 7) hx hb ht inX5 tyX5 tyX5_ok nmX5 hown hK hP hD hS 0 rfl rfl 6 (by decide) (ht _ m_344) (fun _ h9 => h9) rfl (by decide +kernel) rfl rfl (Nat.le_of_ble_eq_true rfl) dX5_init_47 (fun H locs hP hD hS => ?_)
  have hP : va_P (dC, dI) classes [(h, .inr (5, [.ref q1, .ref q3, .ref q5, .ref q7, .int 0, .int 0, .int 0])), (q1, .inl (ca2, 8, .inl (fun _ => 0))), (q3, .inl (ca4, 8, .inl (fun _ => 0))), (q5, .inl (ca6, 3, .inl (fun _ => 0))), (q7, .inl (ca8, 8, .inl (fun _ => 0)))] H := hP
  have hD : va_D A [(h, .inr (5, [.ref q1, .ref q3, .ref q5, .ref q7, .int 0, .int 0, .int 0])), (q1, .inl (ca2, 8, .inl (fun _ => 0))), (q3, .inl (ca4, 8, .inl (fun _ => 0))), (q5, .inl (ca6, 3, .inl (fun _ => 0))), (q7, .inl (ca8, 8, .inl (fun _ => 0)))] := hD
  have hP9 := hP.sub (ws' := [(h, .inr (5, [.ref q1, .ref q3, .ref q5, .ref q7, .int 0, .int 0, .int 0])), (q1, .inl (ca2, 8, .inl (fun _ => 0))), (q3, .inl (ca4, 8, .inl (fun _ => 0))), (q5, .inl (ca6, 3, .inl (fun _ => 0))), (q7, .inl (ca8, 8, .inl (fun _ => 0)))]) [0, 1, 2, 3, 4] rfl
  have hD9 := hD.sub (ws' := [(h, .inr (5, [.ref q1, .ref q3, .ref q5, .ref q7, .int 0, .int 0, .int 0])), (q1, .inl (ca2, 8, .inl (fun _ => 0))), (q3, .inl (ca4, 8, .inl (fun _ => 0))), (q5, .inl (ca6, 3, .inl (fun _ => 0))), (q7, .inl (ca8, 8, .inl (fun _ => 0)))]) [0, 1, 2, 3, 4] (by decide) rfl
  have hK9 := hK.sub (tys' := [(ca2, .int), (ca4, .int), (ca6, .int), (ca8, .int)]) [0, 1, 2, 3] rfl
  obtain ⟨u9, hu9⟩ : ∃ u : (Nat → Nat → Nat) × (Nat → Nat → ClassId), u = ((fun i j => (([[], [], [], [], [], [q1, q3, q5, q7]] : List (List _)).getD i []).getD j 0), (fun i j => (([[], [], [], [], [], [ca2, ca4, ca6, ca8]] : List (List _)).getD i []).getD j ca2)) := ⟨_, rfl⟩
  have hB9 : ∀ t : State, t.heap = H → s.WarmedH t.vm → (fun u t => va_P (dC, dI) classes [(h, .inr (5, [.ref (u.1 5 0), .ref (u.1 5 1), .ref (u.1 5 2), .ref (u.1 5 3), .int 0, .int 0, .int 0])), ((u.1 5 0), .inl ((u.2 5 0), 8, .inl (fun _ => 0))), ((u.1 5 1), .inl ((u.2 5 1), 8, .inl (fun _ => 0))), ((u.1 5 2), .inl ((u.2 5 2), 3, .inl (fun _ => 0))), ((u.1 5 3), .inl ((u.2 5 3), 8, .inl (fun _ => 0)))] t.heap ∧ va_K (dC, dI) classes [((u.2 5 0), .int), ((u.2 5 1), .int), ((u.2 5 2), .int), ((u.2 5 3), .int)] t ∧ va_D A [(h, .inr (5, [.ref (u.1 5 0), .ref (u.1 5 1), .ref (u.1 5 2), .ref (u.1 5 3), .int 0, .int 0, .int 0])), ((u.1 5 0), .inl ((u.2 5 0), 8, .inl (fun _ => 0))), ((u.1 5 1), .inl ((u.2 5 1), 8, .inl (fun _ => 0))), ((u.1 5 2), .inl ((u.2 5 2), 3, .inl (fun _ => 0))), ((u.1 5 3), .inl ((u.2 5 3), 8, .inl (fun _ => 0)))]) u9 t := by
    intro t ht9 hW
    rw [hu9]
    exact ⟨by rw [ht9]; exact hP9, va_K.moved hW.alike hK9, hD9⟩
  exact W.vret hx hb hr (fun t ht9 hW => ⟨⟨u9, rfl, trivial, hB9 t ht9 hW⟩, hS.F ht9⟩) hS.2.2 dX5_init_50
set_option maxHeartbeats 4000000 in
set_option maxRecDepth 100000 in
/-- X4_init -/
theorem c_X4_init (l : Launch) (dC : Nat → ClassId) (dI : Nat → Nat → Nat) (sz : Nat) (h : Nat) : Met l yX4_init (wc yX4_init cX4_init 1 none) ({ frames := 1, cells := 2, slots := 16, locals := 40 } : Room) (pW (dC, dI) classes [(h, .inr (4, [.null, .null, .int 0]))] [] sz [.ref h]) (va_Qv (fun _ : ((Nat → Nat → Nat) × (Nat → Nat → ClassId)) => True) (fun u t => va_P (dC, dI) classes [(h, .inr (4, [.ref (u.1 4 0), .ref (u.1 4 1), .int 0])), ((u.1 4 0), .inl ((u.2 4 0), 8, .inl (fun _ => 0))), ((u.1 4 1), .inl ((u.2 4 1), 8, .inl (fun _ => 0)))] t.heap ∧ va_K (dC, dI) classes [((u.2 4 0), .int), ((u.2 4 1), .int)] t ∧ va_D (va_A [(h, .inr (4, [.null, .null, .int 0]))] sz) [(h, .inr (4, [.ref (u.1 4 0), .ref (u.1 4 1), .int 0])), ((u.1 4 0), .inl ((u.2 4 0), 8, .inl (fun _ => 0))), ((u.1 4 1), .inl ((u.2 4 1), 8, .inl (fun _ => 0)))]) (va_A [(h, .inr (4, [.null, .null, .int 0]))] sz)) 2 16 (va_A [(h, .inr (4, [.null, .null, .int 0]))] sz) := by
  refine Met.ofW (cc := cX4_init) (maxL := 1) (ret := none) (by decide) rfl ?_
  intro p e s m args below meth c s₁ B hml hv
  obtain ⟨rfl, hsz, hP, hK, hD0⟩ := hv
  have hx := B.exec
  have hb := B.bytes
  have hr := B.returns
  have ht := tb_tl (atoms_spec (ws := wc yX4_init cX4_init 1 none) B.pre)
  have hown : s.vm.findClass RX4 = some m.cls := findClass_of_methodNamed B.named
  have hlocks := B.notSynchronized
  have hin : meth.name = "<init>" := (name_of_methodNamed B.named B.method).1
  subst hsz
  have hD := hD0.self (sz := s.heap.size)
  generalize hAe : va_A [(h, .inr (4, [.null, .null, .int 0]))] s.heap.size = A at hD ⊢
  have hA : ∀ q : Nat, s.heap.size ≤ q → A q := fun q h => by rw [← hAe]; exact Or.inr h
  have hS : va_S A s.heap s.heap [] := va_S.rf
  have hP : va_P (dC, dI) classes [(h, .inr (4, [.null, .null, .int 0]))] s.heap := hP
  have hl := lv_entry [.ref h] (n := 1) (Nat.le_of_ble_eq_true rfl)
  rw [lg_entry_eq]
  generalize (lg_sl [.ref h] ++ List.replicate (1 - (lg_sl [.ref h]).length) Slot.unset).toArray = ls at hl ⊢
  have hl : lv_has ls 1 [(0, .ref h)] := hl
  refine lv_aload_n hx hb dX4_init_0 rfl (lv_at hl 0 rfl) ?_
  refine W.objInit hx hb hown (ht _ m_365) (ht _ m_103) (ht _ m_104) rfl (by rw [hml]; exact hl.1) rfl dX4_init_1 (Nat.le_of_ble_eq_true rfl) (Nat.le_of_ble_eq_true rfl) ?_
  refine W.eq (g2 := F0 m 4 ls []) rfl ?_
  refine lv_aload_n hx hb dX4_init_4 rfl (lv_at hl 0 rfl) ?_
  refine lv_bipush (v := 8) hx hb dX4_init_5 (by decide) ?_
  refine va_newa (atype := .int) (ty := .int) (a0 := (8, .inl (fun _ => 0))) (N' := 8) hx hb (ht _ m_125) rfl hK hP hD hS hA (fun _ => rfl) (by decide) (by decide) (by decide) (Nat.le_of_ble_eq_true rfl) (Nat.le_of_ble_eq_true rfl) dX4_init_7 (fun q1 ca2 H hK hP hD hS => ?_)
  have hP : va_P (dC, dI) classes [(h, .inr (4, [.null, .null, .int 0])), (q1, .inl (ca2, 8, .inl (fun _ => 0)))] H := hP
  have hD : va_D A [(h, .inr (4, [.null, .null, .int 0])), (q1, .inl (ca2, 8, .inl (fun _ => 0)))] := hD
  have hK : va_K (dC, dI) classes [(ca2, .int)] s := hK
  refine W.widen (k := 1) (n := 8) (by decide) (by decide) ?_
  refine va_putF (D := (dC, dI)) (ci := 4) (v := .ref q1) (ty := (.array .int)) (C := RX4) (T := TX4) (N := 3) hx hb ht inX4 tyX4 tyX4_ok nmX4 hown hK hP hD hS 0 rfl rfl 0 (by decide) (ht _ m_366) (fun _ h9 => h9) rfl hin rfl (by decide +kernel) rfl rfl (Nat.le_of_ble_eq_true rfl) dX4_init_9 (fun H locs hP hD hS => ?_)
  have hP : va_P (dC, dI) classes [(h, .inr (4, [.ref q1, .null, .int 0])), (q1, .inl (ca2, 8, .inl (fun _ => 0)))] H := hP
  have hD : va_D A [(h, .inr (4, [.ref q1, .null, .int 0])), (q1, .inl (ca2, 8, .inl (fun _ => 0)))] := hD
  refine lv_aload_n hx hb dX4_init_12 rfl (lv_at hl 0 rfl) ?_
  refine lv_bipush (v := 8) hx hb dX4_init_13 (by decide) ?_
  refine va_newa (atype := .int) (ty := .int) (a0 := (8, .inl (fun _ => 0))) (N' := 8) hx hb (ht _ m_125) rfl hK hP hD hS hA (fun _ => rfl) (by decide) (by decide) (by decide) (Nat.le_of_ble_eq_true rfl) (Nat.le_of_ble_eq_true rfl) dX4_init_15 (fun q3 ca4 H hK hP hD hS => ?_)
  have hP : va_P (dC, dI) classes [(h, .inr (4, [.ref q1, .null, .int 0])), (q1, .inl (ca2, 8, .inl (fun _ => 0))), (q3, .inl (ca4, 8, .inl (fun _ => 0)))] H := hP
  have hD : va_D A [(h, .inr (4, [.ref q1, .null, .int 0])), (q1, .inl (ca2, 8, .inl (fun _ => 0))), (q3, .inl (ca4, 8, .inl (fun _ => 0)))] := hD
  have hK : va_K (dC, dI) classes [(ca2, .int), (ca4, .int)] s := hK
  refine W.widen (k := 2) (n := 16) (by decide) (by decide) ?_
  refine va_putF (D := (dC, dI)) (ci := 4) (v := .ref q3) (ty := (.array .int)) (C := RX4) (T := TX4) (N := 3) hx hb ht inX4 tyX4 tyX4_ok nmX4 hown hK hP hD hS 0 rfl rfl 1 (by decide) (ht _ m_367) (fun _ h9 => h9) rfl hin rfl (by decide +kernel) rfl rfl (Nat.le_of_ble_eq_true rfl) dX4_init_17 (fun H locs hP hD hS => ?_)
  have hP : va_P (dC, dI) classes [(h, .inr (4, [.ref q1, .ref q3, .int 0])), (q1, .inl (ca2, 8, .inl (fun _ => 0))), (q3, .inl (ca4, 8, .inl (fun _ => 0)))] H := hP
  have hD : va_D A [(h, .inr (4, [.ref q1, .ref q3, .int 0])), (q1, .inl (ca2, 8, .inl (fun _ => 0))), (q3, .inl (ca4, 8, .inl (fun _ => 0)))] := hD
  refine lv_aload_n hx hb dX4_init_20 rfl (lv_at hl 0 rfl) ?_
  refine lv_iconst (v := 0) hx hb dX4_init_21 (by decide) ?_
  refine va_put (D := (dC, dI)) (ci := 4) (v := .int 0) (ty := (.int)) (C := RX4) (T := TX4) (N := 3) hx hb ht inX4 tyX4 tyX4_ok nmX4 hown hK hP hD hS 0 rfl rfl 2 (by decide) (ht _ m_368) (fun _ h9 => h9) rfl (by decide +kernel) rfl rfl (Nat.le_of_ble_eq_true rfl) dX4_init_22 (fun H locs hP hD hS => ?_)
  have hP : va_P (dC, dI) classes [(h, .inr (4, [.ref q1, .ref q3, .int 0])), (q1, .inl (ca2, 8, .inl (fun _ => 0))), (q3, .inl (ca4, 8, .inl (fun _ => 0)))] H := hP
  have hD : va_D A [(h, .inr (4, [.ref q1, .ref q3, .int 0])), (q1, .inl (ca2, 8, .inl (fun _ => 0))), (q3, .inl (ca4, 8, .inl (fun _ => 0)))] := hD
  have hP9 := hP.sub (ws' := [(h, .inr (4, [.ref q1, .ref q3, .int 0])), (q1, .inl (ca2, 8, .inl (fun _ => 0))), (q3, .inl (ca4, 8, .inl (fun _ => 0)))]) [0, 1, 2] rfl
  have hD9 := hD.sub (ws' := [(h, .inr (4, [.ref q1, .ref q3, .int 0])), (q1, .inl (ca2, 8, .inl (fun _ => 0))), (q3, .inl (ca4, 8, .inl (fun _ => 0)))]) [0, 1, 2] (by decide) rfl
  have hK9 := hK.sub (tys' := [(ca2, .int), (ca4, .int)]) [0, 1] rfl
  obtain ⟨u9, hu9⟩ : ∃ u : (Nat → Nat → Nat) × (Nat → Nat → ClassId), u = ((fun i j => (([[], [], [], [], [q1, q3]] : List (List _)).getD i []).getD j 0), (fun i j => (([[], [], [], [], [ca2, ca4]] : List (List _)).getD i []).getD j ca2)) := ⟨_, rfl⟩
  have hB9 : ∀ t : State, t.heap = H → s.WarmedH t.vm → (fun u t => va_P (dC, dI) classes [(h, .inr (4, [.ref (u.1 4 0), .ref (u.1 4 1), .int 0])), ((u.1 4 0), .inl ((u.2 4 0), 8, .inl (fun _ => 0))), ((u.1 4 1), .inl ((u.2 4 1), 8, .inl (fun _ => 0)))] t.heap ∧ va_K (dC, dI) classes [((u.2 4 0), .int), ((u.2 4 1), .int)] t ∧ va_D A [(h, .inr (4, [.ref (u.1 4 0), .ref (u.1 4 1), .int 0])), ((u.1 4 0), .inl ((u.2 4 0), 8, .inl (fun _ => 0))), ((u.1 4 1), .inl ((u.2 4 1), 8, .inl (fun _ => 0)))]) u9 t := by
    intro t ht9 hW
    rw [hu9]
    exact ⟨by rw [ht9]; exact hP9, va_K.moved hW.alike hK9, hD9⟩
  exact W.vret hx hb hr (fun t ht9 hW => ⟨⟨u9, rfl, trivial, hB9 t ht9 hW⟩, hS.F ht9⟩) hS.2.2 dX4_init_25
