set_option maxHeartbeats 4000000 in
set_option maxRecDepth 100000 in
/-- X6_init -/
theorem c_X6_init (l : Launch) (dC : Nat → ClassId) (dI : Nat → Nat → Nat) (sz : Nat) (h : Nat) : Met l yX6_init (wc yX6_init cX6_init 1 none) ({ frames := 1, cells := 7, slots := 280, locals := 40 } : Room) (pW (dC, dI) classes [(h, .inr (6, [.null, .null, .null, .null, .null, .null, .null, .int 0]))] [] sz [.ref h]) (va_Qv (fun _ : ((Nat → Nat → Nat) × (Nat → Nat → ClassId)) => True) (fun u t => va_P (dC, dI) classes [(h, .inr (6, [.ref (u.1 6 0), .ref (u.1 6 1), .ref (u.1 6 2), .ref (u.1 6 3), .ref (u.1 6 4), .ref (u.1 6 5), .ref (u.1 6 6), .int 0])), ((u.1 6 0), .inl ((u.2 6 0), 40, .inl (fun _ => 0))), ((u.1 6 1), .inl ((u.2 6 1), 40, .inl (fun _ => 0))), ((u.1 6 2), .inl ((u.2 6 2), 40, .inl (fun _ => 0))), ((u.1 6 3), .inl ((u.2 6 3), 40, .inl (fun _ => 0))), ((u.1 6 4), .inl ((u.2 6 4), 40, .inl (fun _ => 0))), ((u.1 6 5), .inl ((u.2 6 5), 40, .inl (fun _ => 0))), ((u.1 6 6), .inl ((u.2 6 6), 40, .inl (fun _ => 0)))] t.heap ∧ va_K (dC, dI) classes [((u.2 6 0), .int), ((u.2 6 1), .int), ((u.2 6 2), .int), ((u.2 6 3), .int), ((u.2 6 4), .int), ((u.2 6 5), .int), ((u.2 6 6), .boolean)] t ∧ va_D (va_A [(h, .inr (6, [.null, .null, .null, .null, .null, .null, .null, .int 0]))] sz) [(h, .inr (6, [.ref (u.1 6 0), .ref (u.1 6 1), .ref (u.1 6 2), .ref (u.1 6 3), .ref (u.1 6 4), .ref (u.1 6 5), .ref (u.1 6 6), .int 0])), ((u.1 6 0), .inl ((u.2 6 0), 40, .inl (fun _ => 0))), ((u.1 6 1), .inl ((u.2 6 1), 40, .inl (fun _ => 0))), ((u.1 6 2), .inl ((u.2 6 2), 40, .inl (fun _ => 0))), ((u.1 6 3), .inl ((u.2 6 3), 40, .inl (fun _ => 0))), ((u.1 6 4), .inl ((u.2 6 4), 40, .inl (fun _ => 0))), ((u.1 6 5), .inl ((u.2 6 5), 40, .inl (fun _ => 0))), ((u.1 6 6), .inl ((u.2 6 6), 40, .inl (fun _ => 0)))]) (va_A [(h, .inr (6, [.null, .null, .null, .null, .null, .null, .null, .int 0]))] sz)) 7 280 (va_A [(h, .inr (6, [.null, .null, .null, .null, .null, .null, .null, .int 0]))] sz) := by
  refine Met.ofW (cc := cX6_init) (maxL := 1) (ret := none) (by decide) rfl ?_
  intro p e s m args below meth c s₁ B hml hv
  obtain ⟨rfl, hsz, hP, hK, hD0⟩ := hv
  have hx := B.exec
  have hb := B.bytes
  have hr := B.returns
  have ht := tb_tl (atoms_spec (ws := wc yX6_init cX6_init 1 none) B.pre)
  have hown : s.vm.findClass RX6 = some m.cls := findClass_of_methodNamed B.named
  have hlocks := B.notSynchronized
  have hin : meth.name = "<init>" := (name_of_methodNamed B.named B.method).1
  subst hsz
  have hD := hD0.self (sz := s.heap.size)
  generalize hAe : va_A [(h, .inr (6, [.null, .null, .null, .null, .null, .null, .null, .int 0]))] s.heap.size = A at hD ⊢
  have hA : ∀ q : Nat, s.heap.size ≤ q → A q := fun q h => by rw [← hAe]; exact Or.inr h
  have hS : va_S A s.heap s.heap [] := va_S.rf
  have hP : va_P (dC, dI) classes [(h, .inr (6, [.null, .null, .null, .null, .null, .null, .null, .int 0]))] s.heap := hP
  have hl := lv_entry [.ref h] (n := 1) (Nat.le_of_ble_eq_true rfl)
  rw [lg_entry_eq]
  generalize (lg_sl [.ref h] ++ List.replicate (1 - (lg_sl [.ref h]).length) Slot.unset).toArray = ls at hl ⊢
  have hl : lv_has ls 1 [(0, .ref h)] := hl
  refine lv_aload_n hx hb dX6_init_0 rfl (lv_at hl 0 rfl) ?_
  refine W.objInit hx hb hown (ht _ m_382) (ht _ m_103) (ht _ m_104) rfl (by rw [hml]; exact hl.1) rfl dX6_init_1 (Nat.le_of_ble_eq_true rfl) (Nat.le_of_ble_eq_true rfl) ?_
  refine W.eq (g2 := F0 m 4 ls []) rfl ?_
  refine lv_aload_n hx hb dX6_init_4 rfl (lv_at hl 0 rfl) ?_
  refine lv_bipush (v := 40) hx hb dX6_init_5 (by decide) ?_
  refine va_newa (atype := .int) (ty := .int) (a0 := (40, .inl (fun _ => 0))) (N' := 40) hx hb (ht _ m_125) rfl hK hP hD hS hA (fun _ => rfl) (by decide) (by decide) (by decide) (Nat.le_of_ble_eq_true rfl) (Nat.le_of_ble_eq_true rfl) dX6_init_7 (fun q1 ca2 H hK hP hD hS => ?_)
  have hP : va_P (dC, dI) classes [(h, .inr (6, [.null, .null, .null, .null, .null, .null, .null, .int 0])), (q1, .inl (ca2, 40, .inl (fun _ => 0)))] H := hP
  have hD : va_D A [(h, .inr (6, [.null, .null, .null, .null, .null, .null, .null, .int 0])), (q1, .inl (ca2, 40, .inl (fun _ => 0)))] := hD
  have hK : va_K (dC, dI) classes [(ca2, .int)] s := hK
  refine W.widen (k := 1) (n := 40) (by decide) (by decide) ?_
  refine va_putF (D := (dC, dI)) (ci := 6) (v := .ref q1) (ty := (.array .int)) (C := RX6) (T := TX6) (N := 8) hx hb ht inX6 tyX6 tyX6_ok nmX6 hown hK hP hD hS 0 rfl rfl 0 (by decide) (ht _ m_383) (fun _ h9 => h9) rfl hin rfl (by decide +kernel) rfl rfl (Nat.le_of_ble_eq_true rfl) dX6_init_9 (fun H locs hP hD hS => ?_)
  have hP : va_P (dC, dI) classes [(h, .inr (6, [.ref q1, .null, .null, .null, .null, .null, .null, .int 0])), (q1, .inl (ca2, 40, .inl (fun _ => 0)))] H := hP
  have hD : va_D A [(h, .inr (6, [.ref q1, .null, .null, .null, .null, .null, .null, .int 0])), (q1, .inl (ca2, 40, .inl (fun _ => 0)))] := hD
  refine lv_aload_n hx hb dX6_init_12 rfl (lv_at hl 0 rfl) ?_
  refine lv_bipush (v := 40) hx hb dX6_init_13 (by decide) ?_
  refine va_newa (atype := .int) (ty := .int) (a0 := (40, .inl (fun _ => 0))) (N' := 40) hx hb (ht _ m_125) rfl hK hP hD hS hA (fun _ => rfl) (by decide) (by decide) (by decide) (Nat.le_of_ble_eq_true rfl) (Nat.le_of_ble_eq_true rfl) dX6_init_15 (fun q3 ca4 H hK hP hD hS => ?_)
  have hP : va_P (dC, dI) classes [(h, .inr (6, [.ref q1, .null, .null, .null, .null, .null, .null, .int 0])), (q1, .inl (ca2, 40, .inl (fun _ => 0))), (q3, .inl (ca4, 40, .inl (fun _ => 0)))] H := hP
  have hD : va_D A [(h, .inr (6, [.ref q1, .null, .null, .null, .null, .null, .null, .int 0])), (q1, .inl (ca2, 40, .inl (fun _ => 0))), (q3, .inl (ca4, 40, .inl (fun _ => 0)))] := hD
  have hK : va_K (dC, dI) classes [(ca2, .int), (ca4, .int)] s := hK
  refine W.widen (k := 2) (n := 80) (by decide) (by decide) ?_
  refine va_putF (D := (dC, dI)) (ci := 6) (v := .ref q3) (ty := (.array .int)) (C := RX6) (T := TX6) (N := 8) hx hb ht inX6 tyX6 tyX6_ok nmX6 hown hK hP hD hS 0 rfl rfl 1 (by decide) (ht _ m_385) (fun _ h9 => h9) rfl hin rfl (by decide +kernel) rfl rfl (Nat.le_of_ble_eq_true rfl) dX6_init_17 (fun H locs hP hD hS => ?_)
  have hP : va_P (dC, dI) classes [(h, .inr (6, [.ref q1, .ref q3, .null, .null, .null, .null, .null, .int 0])), (q1, .inl (ca2, 40, .inl (fun _ => 0))), (q3, .inl (ca4, 40, .inl (fun _ => 0)))] H := hP
  have hD : va_D A [(h, .inr (6, [.ref q1, .ref q3, .null, .null, .null, .null, .null, .int 0])), (q1, .inl (ca2, 40, .inl (fun _ => 0))), (q3, .inl (ca4, 40, .inl (fun _ => 0)))] := hD
  refine lv_aload_n hx hb dX6_init_20 rfl (lv_at hl 0 rfl) ?_
  refine lv_bipush (v := 40) hx hb dX6_init_21 (by decide) ?_
  refine va_newa (atype := .int) (ty := .int) (a0 := (40, .inl (fun _ => 0))) (N' := 40) hx hb (ht _ m_125) rfl hK hP hD hS hA (fun _ => rfl) (by decide) (by decide) (by decide) (Nat.le_of_ble_eq_true rfl) (Nat.le_of_ble_eq_true rfl) dX6_init_23 (fun q5 ca6 H hK hP hD hS => ?_)
  have hP : va_P (dC, dI) classes [(h, .inr (6, [.ref q1, .ref q3, .null, .null, .null, .null, .null, .int 0])), (q1, .inl (ca2, 40, .inl (fun _ => 0))), (q3, .inl (ca4, 40, .inl (fun _ => 0))), (q5, .inl (ca6, 40, .inl (fun _ => 0)))] H := hP
  have hD : va_D A [(h, .inr (6, [.ref q1, .ref q3, .null, .null, .null, .null, .null, .int 0])), (q1, .inl (ca2, 40, .inl (fun _ => 0))), (q3, .inl (ca4, 40, .inl (fun _ => 0))), (q5, .inl (ca6, 40, .inl (fun _ => 0)))] := hD
  have hK : va_K (dC, dI) classes [(ca2, .int), (ca4, .int), (ca6, .int)] s := hK
  refine W.widen (k := 3) (n := 120) (by decide) (by decide) ?_
  refine va_putF (D := (dC, dI)) (ci := 6) (v := .ref q5) (ty := (.array .int)) (C := RX6) (T := TX6) (N := 8) hx hb ht inX6 tyX6 tyX6_ok nmX6 hown hK hP hD hS 0 rfl rfl 2 (by decide) (ht _ m_387) (fun _ h9 => h9) rfl hin rfl (by decide +kernel) rfl rfl (Nat.le_of_ble_eq_true rfl) dX6_init_25 (fun H locs hP hD hS => ?_)
  have hP : va_P (dC, dI) classes [(h, .inr (6, [.ref q1, .ref q3, .ref q5, .null, .null, .null, .null, .int 0])), (q1, .inl (ca2, 40, .inl (fun _ => 0))), (q3, .inl (ca4, 40, .inl (fun _ => 0))), (q5, .inl (ca6, 40, .inl (fun _ => 0)))] H := hP
  have hD : va_D A [(h, .inr (6, [.ref q1, .ref q3, .ref q5, .null, .null, .null, .null, .int 0])), (q1, .inl (ca2, 40, .inl (fun _ => 0))), (q3, .inl (ca4, 40, .inl (fun _ => 0))), (q5, .inl (ca6, 40, .inl (fun _ => 0)))] := hD
  refine lv_aload_n hx hb dX6_init_28 rfl (lv_at hl 0 rfl) ?_
  refine lv_bipush (v := 40) hx hb dX6_init_29 (by decide) ?_
  refine va_newa (atype := .int) (ty := .int) (a0 := (40, .inl (fun _ => 0))) (N' := 40) hx hb (ht _ m_125) rfl hK hP hD hS hA (fun _ => rfl) (by decide) (by decide) (by decide) (Nat.le_of_ble_eq_true rfl) (Nat.le_of_ble_eq_true rfl) dX6_init_31 (fun q7 ca8 H hK hP hD hS => ?_)
  have hP : va_P (dC, dI) classes [(h, .inr (6, [.ref q1, .ref q3, .ref q5, .null, .null, .null, .null, .int 0])), (q1, .inl (ca2, 40, .inl (fun _ => 0))), (q3, .inl (ca4, 40, .inl (fun _ => 0))), (q5, .inl (ca6, 40, .inl (fun _ => 0))), (q7, .inl (ca8, 40, .inl (fun _ => 0)))] H := hP
  have hD : va_D A [(h, .inr (6, [.ref q1, .ref q3, .ref q5, .null, .null, .null, .null, .int 0])), (q1, .inl (ca2, 40, .inl (fun _ => 0))), (q3, .inl (ca4, 40, .inl (fun _ => 0))), (q5, .inl (ca6, 40, .inl (fun _ => 0))), (q7, .inl (ca8, 40, .inl (fun _ => 0)))] := hD
  have hK : va_K (dC, dI) classes [(ca2, .int), (ca4, .int), (ca6, .int), (ca8, .int)] s := hK
  refine W.widen (k := 4) (n := 160) (by decide) (by decide) ?_
  refine va_putF (D := (dC, dI)) (ci := 6) (v := .ref q7) (ty := (.array .int)) (C := RX6) (T := TX6) (N := 8) hx hb ht inX6 tyX6 tyX6_ok nmX6 hown hK hP hD hS 0 rfl rfl 3 (by decide) (ht _ m_389) (fun _ h9 => h9) rfl hin rfl (by decide +kernel) rfl rfl (Nat.le_of_ble_eq_true rfl) dX6_init_33 (fun H locs hP hD hS => ?_)
  have hP : va_P (dC, dI) classes [(h, .inr (6, [.ref q1, .ref q3, .ref q5, .ref q7, .null, .null, .null, .int 0])), (q1, .inl (ca2, 40, .inl (fun _ => 0))), (q3, .inl (ca4, 40, .inl (fun _ => 0))), (q5, .inl (ca6, 40, .inl (fun _ => 0))), (q7, .inl (ca8, 40, .inl (fun _ => 0)))] H := hP
  have hD : va_D A [(h, .inr (6, [.ref q1, .ref q3, .ref q5, .ref q7, .null, .null, .null, .int 0])), (q1, .inl (ca2, 40, .inl (fun _ => 0))), (q3, .inl (ca4, 40, .inl (fun _ => 0))), (q5, .inl (ca6, 40, .inl (fun _ => 0))), (q7, .inl (ca8, 40, .inl (fun _ => 0)))] := hD
  refine lv_aload_n hx hb dX6_init_36 rfl (lv_at hl 0 rfl) ?_
  refine lv_bipush (v := 40) hx hb dX6_init_37 (by decide) ?_
  refine va_newa (atype := .int) (ty := .int) (a0 := (40, .inl (fun _ => 0))) (N' := 40) hx hb (ht _ m_125) rfl hK hP hD hS hA (fun _ => rfl) (by decide) (by decide) (by decide) (Nat.le_of_ble_eq_true rfl) (Nat.le_of_ble_eq_true rfl) dX6_init_39 (fun q9 ca10 H hK hP hD hS => ?_)
  have hP : va_P (dC, dI) classes [(h, .inr (6, [.ref q1, .ref q3, .ref q5, .ref q7, .null, .null, .null, .int 0])), (q1, .inl (ca2, 40, .inl (fun _ => 0))), (q3, .inl (ca4, 40, .inl (fun _ => 0))), (q5, .inl (ca6, 40, .inl (fun _ => 0))), (q7, .inl (ca8, 40, .inl (fun _ => 0))), (q9, .inl (ca10, 40, .inl (fun _ => 0)))] H := hP
  have hD : va_D A [(h, .inr (6, [.ref q1, .ref q3, .ref q5, .ref q7, .null, .null, .null, .int 0])), (q1, .inl (ca2, 40, .inl (fun _ => 0))), (q3, .inl (ca4, 40, .inl (fun _ => 0))), (q5, .inl (ca6, 40, .inl (fun _ => 0))), (q7, .inl (ca8, 40, .inl (fun _ => 0))), (q9, .inl (ca10, 40, .inl (fun _ => 0)))] := hD
  have hK : va_K (dC, dI) classes [(ca2, .int), (ca4, .int), (ca6, .int), (ca8, .int), (ca10, .int)] s := hK
  refine W.widen (k := 5) (n := 200) (by decide) (by decide) ?_
  refine va_putF (D := (dC, dI)) (ci := 6) (v := .ref q9) (ty := (.array .int)) (C := RX6) (T := TX6) (N := 8) hx hb ht inX6 tyX6 tyX6_ok nmX6 hown hK hP hD hS 0 rfl rfl 4 (by decide) (ht _ m_391) (fun _ h9 => h9) rfl hin rfl (by decide +kernel) rfl rfl (Nat.le_of_ble_eq_true rfl) dX6_init_41 (fun H locs hP hD hS => ?_)
  have hP : va_P (dC, dI) classes [(h, .inr (6, [.ref q1, .ref q3, .ref q5, .ref q7, .ref q9, .null, .null, .int 0])), (q1, .inl (ca2, 40, .inl (fun _ => 0))), (q3, .inl (ca4, 40, .inl (fun _ => 0))), (q5, .inl (ca6, 40, .inl (fun _ => 0))), (q7, .inl (ca8, 40, .inl (fun _ => 0))), (q9, .inl (ca10, 40, .inl (fun _ => 0)))] H := hP
  have hD : va_D A [(h, .inr (6, [.ref q1, .ref q3, .ref q5, .ref q7, .ref q9, .null, .null, .int 0])), (q1, .inl (ca2, 40, .inl (fun _ => 0))), (q3, .inl (ca4, 40, .inl (fun _ => 0))), (q5, .inl (ca6, 40, .inl (fun _ => 0))), (q7, .inl (ca8, 40, .inl (fun _ => 0))), (q9, .inl (ca10, 40, .inl (fun _ => 0)))] := hD
  refine lv_aload_n hx hb dX6_init_44 rfl (lv_at hl 0 rfl) ?_
  refine lv_bipush (v := 40) hx hb dX6_init_45 (by decide) ?_
  refine va_newa (atype := .int) (ty := .int) (a0 := (40, .inl (fun _ => 0))) (N' := 40) hx hb (ht _ m_125) rfl hK hP hD hS hA (fun _ => rfl) (by decide) (by decide) (by decide) (Nat.le_of_ble_eq_true rfl) (Nat.le_of_ble_eq_true rfl) dX6_init_47 (fun q11 ca12 H hK hP hD hS => ?_)
  have hP : va_P (dC, dI) classes [(h, .inr (6, [.ref q1, .ref q3, .ref q5, .ref q7, .ref q9, .null, .null, .int 0])), (q1, .inl (ca2, 40, .inl (fun _ => 0))), (q3, .inl (ca4, 40, .inl (fun _ => 0))), (q5, .inl (ca6, 40, .inl (fun _ => 0))), (q7, .inl (ca8, 40, .inl (fun _ => 0))), (q9, .inl (ca10, 40, .inl (fun _ => 0))), (q11, .inl (ca12, 40, .inl (fun _ => 0)))] H := hP
  have hD : va_D A [(h, .inr (6, [.ref q1, .ref q3, .ref q5, .ref q7, .ref q9, .null, .null, .int 0])), (q1, .inl (ca2, 40, .inl (fun _ => 0))), (q3, .inl (ca4, 40, .inl (fun _ => 0))), (q5, .inl (ca6, 40, .inl (fun _ => 0))), (q7, .inl (ca8, 40, .inl (fun _ => 0))), (q9, .inl (ca10, 40, .inl (fun _ => 0))), (q11, .inl (ca12, 40, .inl (fun _ => 0)))] := hD
  have hK : va_K (dC, dI) classes [(ca2, .int), (ca4, .int), (ca6, .int), (ca8, .int), (ca10, .int), (ca12, .int)] s := hK
  refine W.widen (k := 6) (n := 240) (by decide) (by decide) ?_
  refine va_putF (D := (dC, dI)) (ci := 6) (v := .ref q11) (ty := (.array .int)) (C := RX6) (T := TX6) (N := 8) hx hb ht inX6 tyX6 tyX6_ok nmX6 hown hK hP hD hS 0 rfl rfl 5 (by decide) (ht _ m_393) (fun _ h9 => h9) rfl hin rfl (by decide +kernel) rfl rfl (Nat.le_of_ble_eq_true rfl) dX6_init_49 (fun H locs hP hD hS => ?_)
  have hP : va_P (dC, dI) classes [(h, .inr (6, [.ref q1, .ref q3, .ref q5, .ref q7, .ref q9, .ref q11, .null, .int 0])), (q1, .inl (ca2, 40, .inl (fun _ => 0))), (q3, .inl (ca4, 40, .inl (fun _ => 0))), (q5, .inl (ca6, 40, .inl (fun _ => 0))), (q7, .inl (ca8, 40, .inl (fun _ => 0))), (q9, .inl (ca10, 40, .inl (fun _ => 0))), (q11, .inl (ca12, 40, .inl (fun _ => 0)))] H := hP
  have hD : va_D A [(h, .inr (6, [.ref q1, .ref q3, .ref q5, .ref q7, .ref q9, .ref q11, .null, .int 0])), (q1, .inl (ca2, 40, .inl (fun _ => 0))), (q3, .inl (ca4, 40, .inl (fun _ => 0))), (q5, .inl (ca6, 40, .inl (fun _ => 0))), (q7, .inl (ca8, 40, .inl (fun _ => 0))), (q9, .inl (ca10, 40, .inl (fun _ => 0))), (q11, .inl (ca12, 40, .inl (fun _ => 0)))] := hD
  refine lv_aload_n hx hb dX6_init_52 rfl (lv_at hl 0 rfl) ?_
  refine lv_bipush (v := 40) hx hb dX6_init_53 (by decide) ?_
  refine va_newa (atype := .boolean) (ty := .boolean) (a0 := (40, .inl (fun _ => 0))) (N' := 40) hx hb (ht _ m_221) rfl hK hP hD hS hA (fun _ => rfl) (by decide) (by decide) (by decide) (Nat.le_of_ble_eq_true rfl) (Nat.le_of_ble_eq_true rfl) dX6_init_55 (fun q13 ca14 H hK hP hD hS => ?_)
  have hP : va_P (dC, dI) classes [(h, .inr (6, [.ref q1, .ref q3, .ref q5, .ref q7, .ref q9, .ref q11, .null, .int 0])), (q1, .inl (ca2, 40, .inl (fun _ => 0))), (q3, .inl (ca4, 40, .inl (fun _ => 0))), (q5, .inl (ca6, 40, .inl (fun _ => 0))), (q7, .inl (ca8, 40, .inl (fun _ => 0))), (q9, .inl (ca10, 40, .inl (fun _ => 0))), (q11, .inl (ca12, 40, .inl (fun _ => 0))), (q13, .inl (ca14, 40, .inl (fun _ => 0)))] H := hP
  have hD : va_D A [(h, .inr (6, [.ref q1, .ref q3, .ref q5, .ref q7, .ref q9, .ref q11, .null, .int 0])), (q1, .inl (ca2, 40, .inl (fun _ => 0))), (q3, .inl (ca4, 40, .inl (fun _ => 0))), (q5, .inl (ca6, 40, .inl (fun _ => 0))), (q7, .inl (ca8, 40, .inl (fun _ => 0))), (q9, .inl (ca10, 40, .inl (fun _ => 0))), (q11, .inl (ca12, 40, .inl (fun _ => 0))), (q13, .inl (ca14, 40, .inl (fun _ => 0)))] := hD
  have hK : va_K (dC, dI) classes [(ca2, .int), (ca4, .int), (ca6, .int), (ca8, .int), (ca10, .int), (ca12, .int), (ca14, .boolean)] s := hK
  refine W.widen (k := 7) (n := 280) (by decide) (by decide) ?_
  refine va_putF (D := (dC, dI)) (ci := 6) (v := .ref q13) (ty := (.array .boolean)) (C := RX6) (T := TX6) (N := 8) hx hb ht inX6 tyX6 tyX6_ok nmX6 hown hK hP hD hS 0 rfl rfl 6 (by decide) (ht _ m_395) (fun _ h9 => h9) rfl hin rfl (by decide +kernel) rfl rfl (Nat.le_of_ble_eq_true rfl) dX6_init_57 (fun H locs hP hD hS => ?_)
  have hP : va_P (dC, dI) classes [(h, .inr (6, [.ref q1, .ref q3, .ref q5, .ref q7, .ref q9, .ref q11, .ref q13, .int 0])), (q1, .inl (ca2, 40, .inl (fun _ => 0))), (q3, .inl (ca4, 40, .inl (fun _ => 0))), (q5, .inl (ca6, 40, .inl (fun _ => 0))), (q7, .inl (ca8, 40, .inl (fun _ => 0))), (q9, .inl (ca10, 40, .inl (fun _ => 0))), (q11, .inl (ca12, 40, .inl (fun _ => 0))), (q13, .inl (ca14, 40, .inl (fun _ => 0)))] H := hP
  have hD : va_D A [(h, .inr (6, [.ref q1, .ref q3, .ref q5, .ref q7, .ref q9, .ref q11, .ref q13, .int 0])), (q1, .inl (ca2, 40, .inl (fun _ => 0))), (q3, .inl (ca4, 40, .inl (fun _ => 0))), (q5, .inl (ca6, 40, .inl (fun _ => 0))), (q7, .inl (ca8, 40, .inl (fun _ => 0))), (q9, .inl (ca10, 40, .inl (fun _ => 0))), (q11, .inl (ca12, 40, .inl (fun _ => 0))), (q13, .inl (ca14, 40, .inl (fun _ => 0)))] := hD
  refine lv_aload_n hx hb dX6_init_60 rfl (lv_at hl 0 rfl) ?_
  refine lv_iconst (v := 0) hx hb dX6_init_61 (by decide) ?_
  refine va_put (D := (dC, dI)) (ci := 6) (v := .int 0) (ty := (.int)) (C := RX6) (T := TX6) (N := 8) hx hb ht inX6 tyX6 tyX6_ok nmX6 hown hK hP hD hS 0 rfl rfl 7 (by decide) (ht _ m_396) (fun _ h9 => h9) rfl (by decide +kernel) rfl rfl (Nat.le_of_ble_eq_true rfl) dX6_init_62 (fun H locs hP hD hS => ?_)
  have hP : va_P (dC, dI) classes [(h, .inr (6, [.ref q1, .ref q3, .ref q5, .ref q7, .ref q9, .ref q11, .ref q13, .int 0])), (q1, .inl (ca2, 40, .inl (fun _ => 0))), (q3, .inl (ca4, 40, .inl (fun _ => 0))), (q5, .inl (ca6, 40, .inl (fun _ => 0))), (q7, .inl (ca8, 40, .inl (fun _ => 0))), (q9, .inl (ca10, 40, .inl (fun _ => 0))), (q11, .inl (ca12, 40, .inl (fun _ => 0))), (q13, .inl (ca14, 40, .inl (fun _ => 0)))] H := hP
  have hD : va_D A [(h, .inr (6, [.ref q1, .ref q3, .ref q5, .ref q7, .ref q9, .ref q11, .ref q13, .int 0])), (q1, .inl (ca2, 40, .inl (fun _ => 0))), (q3, .inl (ca4, 40, .inl (fun _ => 0))), (q5, .inl (ca6, 40, .inl (fun _ => 0))), (q7, .inl (ca8, 40, .inl (fun _ => 0))), (q9, .inl (ca10, 40, .inl (fun _ => 0))), (q11, .inl (ca12, 40, .inl (fun _ => 0))), (q13, .inl (ca14, 40, .inl (fun _ => 0)))] := hD
  have hP9 := hP.sub (ws' := [(h, .inr (6, [.ref q1, .ref q3, .ref q5, .ref q7, .ref q9, .ref q11, .ref q13, .int 0])), (q1, .inl (ca2, 40, .inl (fun _ => 0))), (q3, .inl (ca4, 40, .inl (fun _ => 0))), (q5, .inl (ca6, 40, .inl (fun _ => 0))), (q7, .inl (ca8, 40, .inl (fun _ => 0))), (q9, .inl (ca10, 40, .inl (fun _ => 0))), (q11, .inl (ca12, 40, .inl (fun _ => 0))), (q13, .inl (ca14, 40, .inl (fun _ => 0)))]) [0, 1, 2, 3, 4, 5, 6, 7] rfl
  have hD9 := hD.sub (ws' := [(h, .inr (6, [.ref q1, .ref q3, .ref q5, .ref q7, .ref q9, .ref q11, .ref q13, .int 0])), (q1, .inl (ca2, 40, .inl (fun _ => 0))), (q3, .inl (ca4, 40, .inl (fun _ => 0))), (q5, .inl (ca6, 40, .inl (fun _ => 0))), (q7, .inl (ca8, 40, .inl (fun _ => 0))), (q9, .inl (ca10, 40, .inl (fun _ => 0))), (q11, .inl (ca12, 40, .inl (fun _ => 0))), (q13, .inl (ca14, 40, .inl (fun _ => 0)))]) [0, 1, 2, 3, 4, 5, 6, 7] (by decide) rfl
  have hK9 := hK.sub (tys' := [(ca2, .int), (ca4, .int), (ca6, .int), (ca8, .int), (ca10, .int), (ca12, .int), (ca14, .boolean)]) [0, 1, 2, 3, 4, 5, 6] rfl
  obtain ⟨u9, hu9⟩ : ∃ u : (Nat → Nat → Nat) × (Nat → Nat → ClassId), u = ((fun i j => (([[], [], [], [], [], [], [q1, q3, q5, q7, q9, q11, q13]] : List (List _)).getD i []).getD j 0), (fun i j => (([[], [], [], [], [], [], [ca2, ca4, ca6, ca8, ca10, ca12, ca14]] : List (List _)).getD i []).getD j ca2)) := ⟨_, rfl⟩
  have hB9 : ∀ t : State, t.heap = H → s.WarmedH t.vm → (fun u t => va_P (dC, dI) classes [(h, .inr (6, [.ref (u.1 6 0), .ref (u.1 6 1), .ref (u.1 6 2), .ref (u.1 6 3), .ref (u.1 6 4), .ref (u.1 6 5), .ref (u.1 6 6), .int 0])), ((u.1 6 0), .inl ((u.2 6 0), 40, .inl (fun _ => 0))), ((u.1 6 1), .inl ((u.2 6 1), 40, .inl (fun _ => 0))), ((u.1 6 2), .inl ((u.2 6 2), 40, .inl (fun _ => 0))), ((u.1 6 3), .inl ((u.2 6 3), 40, .inl (fun _ => 0))), ((u.1 6 4), .inl ((u.2 6 4), 40, .inl (fun _ => 0))), ((u.1 6 5), .inl ((u.2 6 5), 40, .inl (fun _ => 0))), ((u.1 6 6), .inl ((u.2 6 6), 40, .inl (fun _ => 0)))] t.heap ∧ va_K (dC, dI) classes [((u.2 6 0), .int), ((u.2 6 1), .int), ((u.2 6 2), .int), ((u.2 6 3), .int), ((u.2 6 4), .int), ((u.2 6 5), .int), ((u.2 6 6), .boolean)] t ∧ va_D A [(h, .inr (6, [.ref (u.1 6 0), .ref (u.1 6 1), .ref (u.1 6 2), .ref (u.1 6 3), .ref (u.1 6 4), .ref (u.1 6 5), .ref (u.1 6 6), .int 0])), ((u.1 6 0), .inl ((u.2 6 0), 40, .inl (fun _ => 0))), ((u.1 6 1), .inl ((u.2 6 1), 40, .inl (fun _ => 0))), ((u.1 6 2), .inl ((u.2 6 2), 40, .inl (fun _ => 0))), ((u.1 6 3), .inl ((u.2 6 3), 40, .inl (fun _ => 0))), ((u.1 6 4), .inl ((u.2 6 4), 40, .inl (fun _ => 0))), ((u.1 6 5), .inl ((u.2 6 5), 40, .inl (fun _ => 0))), ((u.1 6 6), .inl ((u.2 6 6), 40, .inl (fun _ => 0)))]) u9 t := by
    intro t ht9 hW
    rw [hu9]
    exact ⟨by rw [ht9]; exact hP9, va_K.moved hW.alike hK9, hD9⟩
  exact W.vret hx hb hr (fun t ht9 hW => ⟨⟨u9, rfl, trivial, hB9 t ht9 hW⟩, hS.F ht9⟩) hS.2.2 dX6_init_65
