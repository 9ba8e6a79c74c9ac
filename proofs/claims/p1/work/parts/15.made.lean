set_option maxHeartbeats 4000000 in
set_option maxRecDepth 100000 in
/-- X1_init -/
theorem c_X1_init (l : Launch) (dC : Nat → ClassId) (dI : Nat → Nat → Nat) (sz : Nat) (h : Nat) : Met l yX1_init (wc yX1_init cX1_init 1 none) ({ frames := 1, cells := 7, slots := 1080, locals := 40 } : Room) (pW (dC, dI) classes [(h, .inr (1, [.null, .null, .null, .null, .null, .null, .null, .int 0, .int 0]))] [] sz [.ref h]) (va_Qv (fun _ : ((Nat → Nat → Nat) × (Nat → Nat → ClassId)) => True) (fun u t => va_P (dC, dI) classes [(h, .inr (1, [.ref (u.1 1 0), .ref (u.1 1 1), .ref (u.1 1 2), .ref (u.1 1 3), .ref (u.1 1 4), .ref (u.1 1 5), .ref (u.1 1 6), .int 0, .int 0])), ((u.1 1 0), .inl ((u.2 1 0), 8, .inl (fun _ => 0))), ((u.1 1 1), .inl ((u.2 1 1), 8, .inl (fun _ => 0))), ((u.1 1 2), .inl ((u.2 1 2), 96, .inl (fun _ => 0))), ((u.1 1 3), .inl ((u.2 1 3), 96, .inl (fun _ => 0))), ((u.1 1 4), .inl ((u.2 1 4), 96, .inl (fun _ => 0))), ((u.1 1 5), .inl ((u.2 1 5), 768, .inl (fun _ => 0))), ((u.1 1 6), .inl ((u.2 1 6), 8, .inl (fun _ => 0)))] t.heap ∧ va_K (dC, dI) classes [((u.2 1 0), .int), ((u.2 1 1), .int), ((u.2 1 2), .int), ((u.2 1 3), .int), ((u.2 1 4), .int), ((u.2 1 5), .byte), ((u.2 1 6), .boolean)] t ∧ va_D (va_A [(h, .inr (1, [.null, .null, .null, .null, .null, .null, .null, .int 0, .int 0]))] sz) [(h, .inr (1, [.ref (u.1 1 0), .ref (u.1 1 1), .ref (u.1 1 2), .ref (u.1 1 3), .ref (u.1 1 4), .ref (u.1 1 5), .ref (u.1 1 6), .int 0, .int 0])), ((u.1 1 0), .inl ((u.2 1 0), 8, .inl (fun _ => 0))), ((u.1 1 1), .inl ((u.2 1 1), 8, .inl (fun _ => 0))), ((u.1 1 2), .inl ((u.2 1 2), 96, .inl (fun _ => 0))), ((u.1 1 3), .inl ((u.2 1 3), 96, .inl (fun _ => 0))), ((u.1 1 4), .inl ((u.2 1 4), 96, .inl (fun _ => 0))), ((u.1 1 5), .inl ((u.2 1 5), 768, .inl (fun _ => 0))), ((u.1 1 6), .inl ((u.2 1 6), 8, .inl (fun _ => 0)))]) (va_A [(h, .inr (1, [.null, .null, .null, .null, .null, .null, .null, .int 0, .int 0]))] sz)) 7 1080 (va_A [(h, .inr (1, [.null, .null, .null, .null, .null, .null, .null, .int 0, .int 0]))] sz) := by
  refine Met.ofW (cc := cX1_init) (maxL := 1) (ret := none) (by decide) rfl ?_
  intro p e s m args below meth c s₁ B hml hv
  obtain ⟨rfl, hsz, hP, hK, hD0⟩ := hv
  have hx := B.exec
  have hb := B.bytes
  have hr := B.returns
  have ht := tb_tl (atoms_spec (ws := wc yX1_init cX1_init 1 none) B.pre)
  have hown : s.vm.findClass RX1 = some m.cls := findClass_of_methodNamed B.named
  have hlocks := B.notSynchronized
  have hin : meth.name = "<init>" := (name_of_methodNamed B.named B.method).1
  subst hsz
  have hD := hD0.self (sz := s.heap.size)
  generalize hAe : va_A [(h, .inr (1, [.null, .null, .null, .null, .null, .null, .null, .int 0, .int 0]))] s.heap.size = A at hD ⊢
  have hA : ∀ q : Nat, s.heap.size ≤ q → A q := fun q h => by rw [← hAe]; exact Or.inr h
  have hS : va_S A s.heap s.heap [] := va_S.rf
  have hP : va_P (dC, dI) classes [(h, .inr (1, [.null, .null, .null, .null, .null, .null, .null, .int 0, .int 0]))] s.heap := hP
  have hl := lv_entry [.ref h] (n := 1) (Nat.le_of_ble_eq_true rfl)
  rw [lg_entry_eq]
  generalize (lg_sl [.ref h] ++ List.replicate (1 - (lg_sl [.ref h]).length) Slot.unset).toArray = ls at hl ⊢
  have hl : lv_has ls 1 [(0, .ref h)] := hl
  refine lv_aload_n hx hb dX1_init_0 rfl (lv_at hl 0 rfl) ?_
  refine W.objInit hx hb hown (ht _ m_188) (ht _ m_103) (ht _ m_104) rfl (by rw [hml]; exact hl.1) rfl dX1_init_1 (Nat.le_of_ble_eq_true rfl) (Nat.le_of_ble_eq_true rfl) ?_
  refine W.eq (g2 := F0 m 4 ls []) rfl ?_
  refine lv_aload_n hx hb dX1_init_4 rfl (lv_at hl 0 rfl) ?_
  refine lv_bipush (v := 8) hx hb dX1_init_5 (by decide) ?_
  refine va_newa (atype := .int) (ty := .int) (a0 := (8, .inl (fun _ => 0))) (N' := 8) hx hb (ht _ m_125) rfl hK hP hD hS hA (fun _ => rfl) (by decide) (by decide) (by decide) (Nat.le_of_ble_eq_true rfl) (Nat.le_of_ble_eq_true rfl) dX1_init_7 (fun q1 ca2 H hK hP hD hS => ?_)
  have hP : va_P (dC, dI) classes [(h, .inr (1, [.null, .null, .null, .null, .null, .null, .null, .int 0, .int 0])), (q1, .inl (ca2, 8, .inl (fun _ => 0)))] H := hP
  have hD : va_D A [(h, .inr (1, [.null, .null, .null, .null, .null, .null, .null, .int 0, .int 0])), (q1, .inl (ca2, 8, .inl (fun _ => 0)))] := hD
  have hK : va_K (dC, dI) classes [(ca2, .int)] s := hK
  refine W.widen (k := 1) (n := 8) (by decide) (by decide) ?_
  refine va_putF (D := (dC, dI)) (ci := 1) (v := .ref q1) (ty := (.array .int)) (C := RX1) (T := TX1) (N := 9) hx hb ht inX1 tyX1 tyX1_ok nmX1 hown hK hP hD hS 0 rfl rfl 0 (by decide) (ht _ m_189) (fun _ h9 => h9) rfl hin rfl (by decide +kernel) rfl rfl (Nat.le_of_ble_eq_true rfl) dX1_init_9 (fun H locs hP hD hS => ?_)
  have hP : va_P (dC, dI) classes [(h, .inr (1, [.ref q1, .null, .null, .null, .null, .null, .null, .int 0, .int 0])), (q1, .inl (ca2, 8, .inl (fun _ => 0)))] H := hP
  have hD : va_D A [(h, .inr (1, [.ref q1, .null, .null, .null, .null, .null, .null, .int 0, .int 0])), (q1, .inl (ca2, 8, .inl (fun _ => 0)))] := hD
  refine lv_aload_n hx hb dX1_init_12 rfl (lv_at hl 0 rfl) ?_
  refine lv_bipush (v := 8) hx hb dX1_init_13 (by decide) ?_
  refine va_newa (atype := .int) (ty := .int) (a0 := (8, .inl (fun _ => 0))) (N' := 8) hx hb (ht _ m_125) rfl hK hP hD hS hA (fun _ => rfl) (by decide) (by decide) (by decide) (Nat.le_of_ble_eq_true rfl) (Nat.le_of_ble_eq_true rfl) dX1_init_15 (fun q3 ca4 H hK hP hD hS => ?_)
  have hP : va_P (dC, dI) classes [(h, .inr (1, [.ref q1, .null, .null, .null, .null, .null, .null, .int 0, .int 0])), (q1, .inl (ca2, 8, .inl (fun _ => 0))), (q3, .inl (ca4, 8, .inl (fun _ => 0)))] H := hP
  have hD : va_D A [(h, .inr (1, [.ref q1, .null, .null, .null, .null, .null, .null, .int 0, .int 0])), (q1, .inl (ca2, 8, .inl (fun _ => 0))), (q3, .inl (ca4, 8, .inl (fun _ => 0)))] := hD
  have hK : va_K (dC, dI) classes [(ca2, .int), (ca4, .int)] s := hK
  refine W.widen (k := 2) (n := 16) (by decide) (by decide) ?_
  refine va_putF (D := (dC, dI)) (ci := 1) (v := .ref q3) (ty := (.array .int)) (C := RX1) (T := TX1) (N := 9) hx hb ht inX1 tyX1 tyX1_ok nmX1 hown hK hP hD hS 0 rfl rfl 1 (by decide) (ht _ m_190) (fun _ h9 => h9) rfl hin rfl (by decide +kernel) rfl rfl (Nat.le_of_ble_eq_true rfl) dX1_init_17 (fun H locs hP hD hS => ?_)
  have hP : va_P (dC, dI) classes [(h, .inr (1, [.ref q1, .ref q3, .null, .null, .null, .null, .null, .int 0, .int 0])), (q1, .inl (ca2, 8, .inl (fun _ => 0))), (q3, .inl (ca4, 8, .inl (fun _ => 0)))] H := hP
  have hD : va_D A [(h, .inr (1, [.ref q1, .ref q3, .null, .null, .null, .null, .null, .int 0, .int 0])), (q1, .inl (ca2, 8, .inl (fun _ => 0))), (q3, .inl (ca4, 8, .inl (fun _ => 0)))] := hD
  refine lv_aload_n hx hb dX1_init_20 rfl (lv_at hl 0 rfl) ?_
  refine lv_bipush (v := 96) hx hb dX1_init_21 (by decide) ?_
  refine va_newa (atype := .int) (ty := .int) (a0 := (96, .inl (fun _ => 0))) (N' := 96) hx hb (ht _ m_125) rfl hK hP hD hS hA (fun _ => rfl) (by decide) (by decide) (by decide) (Nat.le_of_ble_eq_true rfl) (Nat.le_of_ble_eq_true rfl) dX1_init_23 (fun q5 ca6 H hK hP hD hS => ?_)
  have hP : va_P (dC, dI) classes [(h, .inr (1, [.ref q1, .ref q3, .null, .null, .null, .null, .null, .int 0, .int 0])), (q1, .inl (ca2, 8, .inl (fun _ => 0))), (q3, .inl (ca4, 8, .inl (fun _ => 0))), (q5, .inl (ca6, 96, .inl (fun _ => 0)))] H := hP
  have hD : va_D A [(h, .inr (1, [.ref q1, .ref q3, .null, .null, .null, .null, .null, .int 0, .int 0])), (q1, .inl (ca2, 8, .inl (fun _ => 0))), (q3, .inl (ca4, 8, .inl (fun _ => 0))), (q5, .inl (ca6, 96, .inl (fun _ => 0)))] := hD
  have hK : va_K (dC, dI) classes [(ca2, .int), (ca4, .int), (ca6, .int)] s := hK
  refine W.widen (k := 3) (n := 112) (by decide) (by decide) ?_
  refine va_putF (D := (dC, dI)) (ci := 1) (v := .ref q5) (ty := (.array .int)) (C := RX1) (T := TX1) (N := 9) hx hb ht inX1 tyX1 tyX1_ok nmX1 hown hK hP hD hS 0 rfl rfl 2 (by decide) (ht _ m_191) (fun _ h9 => h9) rfl hin rfl (by decide +kernel) rfl rfl (Nat.le_of_ble_eq_true rfl) dX1_init_25 (fun H locs hP hD hS => ?_)
  have hP : va_P (dC, dI) classes [(h, .inr (1, [.ref q1, .ref q3, .ref q5, .null, .null, .null, .null, .int 0, .int 0])), (q1, .inl (ca2, 8, .inl (fun _ => 0))), (q3, .inl (ca4, 8, .inl (fun _ => 0))), (q5, .inl (ca6, 96, .inl (fun _ => 0)))] H := hP
  have hD : va_D A [(h, .inr (1, [.ref q1, .ref q3, .ref q5, .null, .null, .null, .null, .int 0, .int 0])), (q1, .inl (ca2, 8, .inl (fun _ => 0))), (q3, .inl (ca4, 8, .inl (fun _ => 0))), (q5, .inl (ca6, 96, .inl (fun _ => 0)))] := hD
  refine lv_aload_n hx hb dX1_init_28 rfl (lv_at hl 0 rfl) ?_
  refine lv_bipush (v := 96) hx hb dX1_init_29 (by decide) ?_
  refine va_newa (atype := .int) (ty := .int) (a0 := (96, .inl (fun _ => 0))) (N' := 96) hx hb (ht _ m_125) rfl hK hP hD hS hA (fun _ => rfl) (by decide) (by decide) (by decide) (Nat.le_of_ble_eq_true rfl) (Nat.le_of_ble_eq_true rfl) dX1_init_31 (fun q7 ca8 H hK hP hD hS => ?_)
  have hP : va_P (dC, dI) classes [(h, .inr (1, [.ref q1, .ref q3, .ref q5, .null, .null, .null, .null, .int 0, .int 0])), (q1, .inl (ca2, 8, .inl (fun _ => 0))), (q3, .inl (ca4, 8, .inl (fun _ => 0))), (q5, .inl (ca6, 96, .inl (fun _ => 0))), (q7, .inl (ca8, 96, .inl (fun _ => 0)))] H := hP
  have hD : va_D A [(h, .inr (1, [.ref q1, .ref q3, .ref q5, .null, .null, .null, .null, .int 0, .int 0])), (q1, .inl (ca2, 8, .inl (fun _ => 0))), (q3, .inl (ca4, 8, .inl (fun _ => 0))), (q5, .inl (ca6, 96, .inl (fun _ => 0))), (q7, .inl (ca8, 96, .inl (fun _ => 0)))] := hD
  have hK : va_K (dC, dI) classes [(ca2, .int), (ca4, .int), (ca6, .int), (ca8, .int)] s := hK
  refine W.widen (k := 4) (n := 208) (by decide) (by decide) ?_
  refine va_putF (D := (dC, dI)) (ci := 1) (v := .ref q7) (ty := (.array .int)) (C := RX1) (T := TX1) (N := 9) hx hb ht inX1 tyX1 tyX1_ok nmX1 hown hK hP hD hS 0 rfl rfl 3 (by decide) (ht _ m_192) (fun _ h9 => h9) rfl hin rfl (by decide +kernel) rfl rfl (Nat.le_of_ble_eq_true rfl) dX1_init_33 (fun H locs hP hD hS => ?_)
  have hP : va_P (dC, dI) classes [(h, .inr (1, [.ref q1, .ref q3, .ref q5, .ref q7, .null, .null, .null, .int 0, .int 0])), (q1, .inl (ca2, 8, .inl (fun _ => 0))), (q3, .inl (ca4, 8, .inl (fun _ => 0))), (q5, .inl (ca6, 96, .inl (fun _ => 0))), (q7, .inl (ca8, 96, .inl (fun _ => 0)))] H := hP
  have hD : va_D A [(h, .inr (1, [.ref q1, .ref q3, .ref q5, .ref q7, .null, .null, .null, .int 0, .int 0])), (q1, .inl (ca2, 8, .inl (fun _ => 0))), (q3, .inl (ca4, 8, .inl (fun _ => 0))), (q5, .inl (ca6, 96, .inl (fun _ => 0))), (q7, .inl (ca8, 96, .inl (fun _ => 0)))] := hD
  refine lv_aload_n hx hb dX1_init_36 rfl (lv_at hl 0 rfl) ?_
  refine lv_bipush (v := 96) hx hb dX1_init_37 (by decide) ?_
  refine va_newa (atype := .int) (ty := .int) (a0 := (96, .inl (fun _ => 0))) (N' := 96) hx hb (ht _ m_125) rfl hK hP hD hS hA (fun _ => rfl) (by decide) (by decide) (by decide) (Nat.le_of_ble_eq_true rfl) (Nat.le_of_ble_eq_true rfl) dX1_init_39 (fun q9 ca10 H hK hP hD hS => ?_)
  have hP : va_P (dC, dI) classes [(h, .inr (1, [.ref q1, .ref q3, .ref q5, .ref q7, .null, .null, .null, .int 0, .int 0])), (q1, .inl (ca2, 8, .inl (fun _ => 0))), (q3, .inl (ca4, 8, .inl (fun _ => 0))), (q5, .inl (ca6, 96, .inl (fun _ => 0))), (q7, .inl (ca8, 96, .inl (fun _ => 0))), (q9, .inl (ca10, 96, .inl (fun _ => 0)))] H := hP
  have hD : va_D A [(h, .inr (1, [.ref q1, .ref q3, .ref q5, .ref q7, .null, .null, .null, .int 0, .int 0])), (q1, .inl (ca2, 8, .inl (fun _ => 0))), (q3, .inl (ca4, 8, .inl (fun _ => 0))), (q5, .inl (ca6, 96, .inl (fun _ => 0))), (q7, .inl (ca8, 96, .inl (fun _ => 0))), (q9, .inl (ca10, 96, .inl (fun _ => 0)))] := hD
  have hK : va_K (dC, dI) classes [(ca2, .int), (ca4, .int), (ca6, .int), (ca8, .int), (ca10, .int)] s := hK
  refine W.widen (k := 5) (n := 304) (by decide) (by decide) ?_
  refine va_putF (D := (dC, dI)) (ci := 1) (v := .ref q9) (ty := (.array .int)) (C := RX1) (T := TX1) (N := 9) hx hb ht inX1 tyX1 tyX1_ok nmX1 hown hK hP hD hS 0 rfl rfl 4 (by decide) (ht _ m_193) (fun _ h9 => h9) rfl hin rfl (by decide +kernel) rfl rfl (Nat.le_of_ble_eq_true rfl) dX1_init_41 (fun H locs hP hD hS => ?_)
  have hP : va_P (dC, dI) classes [(h, .inr (1, [.ref q1, .ref q3, .ref q5, .ref q7, .ref q9, .null, .null, .int 0, .int 0])), (q1, .inl (ca2, 8, .inl (fun _ => 0))), (q3, .inl (ca4, 8, .inl (fun _ => 0))), (q5, .inl (ca6, 96, .inl (fun _ => 0))), (q7, .inl (ca8, 96, .inl (fun _ => 0))), (q9, .inl (ca10, 96, .inl (fun _ => 0)))] H := hP
  have hD : va_D A [(h, .inr (1, [.ref q1, .ref q3, .ref q5, .ref q7, .ref q9, .null, .null, .int 0, .int 0])), (q1, .inl (ca2, 8, .inl (fun _ => 0))), (q3, .inl (ca4, 8, .inl (fun _ => 0))), (q5, .inl (ca6, 96, .inl (fun _ => 0))), (q7, .inl (ca8, 96, .inl (fun _ => 0))), (q9, .inl (ca10, 96, .inl (fun _ => 0)))] := hD
  refine lv_aload_n hx hb dX1_init_44 rfl (lv_at hl 0 rfl) ?_
  refine lv_sipush (v := 768) hx hb dX1_init_45 (by decide) ?_
  refine va_newa (atype := .byte) (ty := .byte) (a0 := (768, .inl (fun _ => 0))) (N' := 768) hx hb (ht _ m_220) rfl hK hP hD hS hA (fun _ => rfl) (by decide) (by decide) (by decide) (Nat.le_of_ble_eq_true rfl) (Nat.le_of_ble_eq_true rfl) dX1_init_48 (fun q11 ca12 H hK hP hD hS => ?_)
  have hP : va_P (dC, dI) classes [(h, .inr (1, [.ref q1, .ref q3, .ref q5, .ref q7, .ref q9, .null, .null, .int 0, .int 0])), (q1, .inl (ca2, 8, .inl (fun _ => 0))), (q3, .inl (ca4, 8, .inl (fun _ => 0))), (q5, .inl (ca6, 96, .inl (fun _ => 0))), (q7, .inl (ca8, 96, .inl (fun _ => 0))), (q9, .inl (ca10, 96, .inl (fun _ => 0))), (q11, .inl (ca12, 768, .inl (fun _ => 0)))] H := hP
  have hD : va_D A [(h, .inr (1, [.ref q1, .ref q3, .ref q5, .ref q7, .ref q9, .null, .null, .int 0, .int 0])), (q1, .inl (ca2, 8, .inl (fun _ => 0))), (q3, .inl (ca4, 8, .inl (fun _ => 0))), (q5, .inl (ca6, 96, .inl (fun _ => 0))), (q7, .inl (ca8, 96, .inl (fun _ => 0))), (q9, .inl (ca10, 96, .inl (fun _ => 0))), (q11, .inl (ca12, 768, .inl (fun _ => 0)))] := hD
  have hK : va_K (dC, dI) classes [(ca2, .int), (ca4, .int), (ca6, .int), (ca8, .int), (ca10, .int), (ca12, .byte)] s := hK
  refine W.widen (k := 6) (n := 1072) (by decide) (by decide) ?_
  refine va_putF (D := (dC, dI)) (ci := 1) (v := .ref q11) (ty := (.array .byte)) (C := RX1) (T := TX1) (N := 9) hx hb ht inX1 tyX1 tyX1_ok nmX1 hown hK hP hD hS 0 rfl rfl 5 (by decide) (ht _ m_194) (fun _ h9 => h9) rfl hin rfl (by decide +kernel) rfl rfl (Nat.le_of_ble_eq_true rfl) dX1_init_50 (fun H locs hP hD hS => ?_)
  have hP : va_P (dC, dI) classes [(h, .inr (1, [.ref q1, .ref q3, .ref q5, .ref q7, .ref q9, .ref q11, .null, .int 0, .int 0])), (q1, .inl (ca2, 8, .inl (fun _ => 0))), (q3, .inl (ca4, 8, .inl (fun _ => 0))), (q5, .inl (ca6, 96, .inl (fun _ => 0))), (q7, .inl (ca8, 96, .inl (fun _ => 0))), (q9, .inl (ca10, 96, .inl (fun _ => 0))), (q11, .inl (ca12, 768, .inl (fun _ => 0)))] H := hP
  have hD : va_D A [(h, .inr (1, [.ref q1, .ref q3, .ref q5, .ref q7, .ref q9, .ref q11, .null, .int 0, .int 0])), (q1, .inl (ca2, 8, .inl (fun _ => 0))), (q3, .inl (ca4, 8, .inl (fun _ => 0))), (q5, .inl (ca6, 96, .inl (fun _ => 0))), (q7, .inl (ca8, 96, .inl (fun _ => 0))), (q9, .inl (ca10, 96, .inl (fun _ => 0))), (q11, .inl (ca12, 768, .inl (fun _ => 0)))] := hD
  refine lv_aload_n hx hb dX1_init_53 rfl (lv_at hl 0 rfl) ?_
  refine lv_bipush (v := 8) hx hb dX1_init_54 (by decide) ?_
  refine va_newa (atype := .boolean) (ty := .boolean) (a0 := (8, .inl (fun _ => 0))) (N' := 8) hx hb (ht _ m_221) rfl hK hP hD hS hA (fun _ => rfl) (by decide) (by decide) (by decide) (Nat.le_of_ble_eq_true rfl) (Nat.le_of_ble_eq_true rfl) dX1_init_56 (fun q13 ca14 H hK hP hD hS => ?_)
  have hP : va_P (dC, dI) classes [(h, .inr (1, [.ref q1, .ref q3, .ref q5, .ref q7, .ref q9, .ref q11, .null, .int 0, .int 0])), (q1, .inl (ca2, 8, .inl (fun _ => 0))), (q3, .inl (ca4, 8, .inl (fun _ => 0))), (q5, .inl (ca6, 96, .inl (fun _ => 0))), (q7, .inl (ca8, 96, .inl (fun _ => 0))), (q9, .inl (ca10, 96, .inl (fun _ => 0))), (q11, .inl (ca12, 768, .inl (fun _ => 0))), (q13, .inl (ca14, 8, .inl (fun _ => 0)))] H := hP
  have hD : va_D A [(h, .inr (1, [.ref q1, .ref q3, .ref q5, .ref q7, .ref q9, .ref q11, .null, .int 0, .int 0])), (q1, .inl (ca2, 8, .inl (fun _ => 0))), (q3, .inl (ca4, 8, .inl (fun _ => 0))), (q5, .inl (ca6, 96, .inl (fun _ => 0))), (q7, .inl (ca8, 96, .inl (fun _ => 0))), (q9, .inl (ca10, 96, .inl (fun _ => 0))), (q11, .inl (ca12, 768, .inl (fun _ => 0))), (q13, .inl (ca14, 8, .inl (fun _ => 0)))] := hD
  have hK : va_K (dC, dI) classes [(ca2, .int), (ca4, .int), (ca6, .int), (ca8, .int), (ca10, .int), (ca12, .byte), (ca14, .boolean)] s := hK
  refine W.widen (k := 7) (n := 1080) (by decide) (by decide) ?_
  refine va_putF (D := (dC, dI)) (ci := 1) (v := .ref q13) (ty := (.array .boolean)) (C := RX1) (T := TX1) (N := 9) hx hb ht inX1 tyX1 tyX1_ok nmX1 hown hK hP hD hS 0 rfl rfl 6 (by decide) (ht _ m_195) (fun _ h9 => h9) rfl hin rfl (by decide +kernel) rfl rfl (Nat.le_of_ble_eq_true rfl) dX1_init_58 (fun H locs hP hD hS => ?_)
  have hP : va_P (dC, dI) classes [(h, .inr (1, [.ref q1, .ref q3, .ref q5, .ref q7, .ref q9, .ref q11, .ref q13, .int 0, .int 0])), (q1, .inl (ca2, 8, .inl (fun _ => 0))), (q3, .inl (ca4, 8, .inl (fun _ => 0))), (q5, .inl (ca6, 96, .inl (fun _ => 0))), (q7, .inl (ca8, 96, .inl (fun _ => 0))), (q9, .inl (ca10, 96, .inl (fun _ => 0))), (q11, .inl (ca12, 768, .inl (fun _ => 0))), (q13, .inl (ca14, 8, .inl (fun _ => 0)))] H := hP
  have hD : va_D A [(h, .inr (1, [.ref q1, .ref q3, .ref q5, .ref q7, .ref q9, .ref q11, .ref q13, .int 0, .int 0])), (q1, .inl (ca2, 8, .inl (fun _ => 0))), (q3, .inl (ca4, 8, .inl (fun _ => 0))), (q5, .inl (ca6, 96, .inl (fun _ => 0))), (q7, .inl (ca8, 96, .inl (fun _ => 0))), (q9, .inl (ca10, 96, .inl (fun _ => 0))), (q11, .inl (ca12, 768, .inl (fun _ => 0))), (q13, .inl (ca14, 8, .inl (fun _ => 0)))] := hD
  refine lv_aload_n hx hb dX1_init_61 rfl (lv_at hl 0 rfl) ?_
  refine lv_iconst (v := 0) hx hb dX1_init_62 (by decide) ?_
  refine va_put (D := (dC, dI)) (ci := 1) (v := .int 0) (ty := (.int)) (C := RX1) (T := TX1) (N := 9) hx hb ht inX1 tyX1 tyX1_ok nmX1 hown hK hP hD hS 0 rfl rfl 7 (by decide) (ht _ m_196) (fun _ h9 => h9) rfl (by decide +kernel) rfl rfl (Nat.le_of_ble_eq_true rfl) dX1_init_63 (fun H locs hP hD hS => ?_)
  have hP : va_P (dC, dI) classes [(h, .inr (1, [.ref q1, .ref q3, .ref q5, .ref q7, .ref q9, .ref q11, .ref q13, .int 0, .int 0])), (q1, .inl (ca2, 8, .inl (fun _ => 0))), (q3, .inl (ca4, 8, .inl (fun _ => 0))), (q5, .inl (ca6, 96, .inl (fun _ => 0))), (q7, .inl (ca8, 96, .inl (fun _ => 0))), (q9, .inl (ca10, 96, .inl (fun _ => 0))), (q11, .inl (ca12, 768, .inl (fun _ => 0))), (q13, .inl (ca14, 8, .inl (fun _ => 0)))] H := hP
  have hD : va_D A [(h, .inr (1, [.ref q1, .ref q3, .ref q5, .ref q7, .ref q9, .ref q11, .ref q13, .int 0, .int 0])), (q1, .inl (ca2, 8, .inl (fun _ => 0))), (q3, .inl (ca4, 8, .inl (fun _ => 0))), (q5, .inl (ca6, 96, .inl (fun _ => 0))), (q7, .inl (ca8, 96, .inl (fun _ => 0))), (q9, .inl (ca10, 96, .inl (fun _ => 0))), (q11, .inl (ca12, 768, .inl (fun _ => 0))), (q13, .inl (ca14, 8, .inl (fun _ => 0)))] := hD
  refine lv_aload_n hx hb dX1_init_66 rfl (lv_at hl 0 rfl) ?_
  refine lv_iconst (v := 0) hx hb dX1_init_67 (by decide) ?_
  refine va_put (D := (dC, dI)) (ci := 1) (v := .int 0) (ty := (.int)) (C := RX1) (T := TX1) (N := 9) hx hb ht inX1 tyX1 tyX1_ok nmX1 hown hK hP hD hS 0 rfl rfl 8 (by decide) (ht _ m_199) (fun _ h9 => h9) rfl (by decide +kernel) rfl rfl (Nat.le_of_ble_eq_true rfl) dX1_init_68 (fun H locs hP hD hS => ?_)
  have hP : va_P (dC, dI) classes [(h, .inr (1, [.ref q1, .ref q3, .ref q5, .ref q7, .ref q9, .ref q11, .ref q13, .int 0, .int 0])), (q1, .inl (ca2, 8, .inl (fun _ => 0))), (q3, .inl (ca4, 8, .inl (fun _ => 0))), (q5, .inl (ca6, 96, .inl (fun _ => 0))), (q7, .inl (ca8, 96, .inl (fun _ => 0))), (q9, .inl (ca10, 96, .inl (fun _ => 0))), (q11, .inl (ca12, 768, .inl (fun _ => 0))), (q13, .inl (ca14, 8, .inl (fun _ => 0)))] H := hP
  have hD : va_D A [(h, .inr (1, [.ref q1, .ref q3, .ref q5, .ref q7, .ref q9, .ref q11, .ref q13, .int 0, .int 0])), (q1, .inl (ca2, 8, .inl (fun _ => 0))), (q3, .inl (ca4, 8, .inl (fun _ => 0))), (q5, .inl (ca6, 96, .inl (fun _ => 0))), (q7, .inl (ca8, 96, .inl (fun _ => 0))), (q9, .inl (ca10, 96, .inl (fun _ => 0))), (q11, .inl (ca12, 768, .inl (fun _ => 0))), (q13, .inl (ca14, 8, .inl (fun _ => 0)))] := hD
  have hP9 := hP.sub (ws' := [(h, .inr (1, [.ref q1, .ref q3, .ref q5, .ref q7, .ref q9, .ref q11, .ref q13, .int 0, .int 0])), (q1, .inl (ca2, 8, .inl (fun _ => 0))), (q3, .inl (ca4, 8, .inl (fun _ => 0))), (q5, .inl (ca6, 96, .inl (fun _ => 0))), (q7, .inl (ca8, 96, .inl (fun _ => 0))), (q9, .inl (ca10, 96, .inl (fun _ => 0))), (q11, .inl (ca12, 768, .inl (fun _ => 0))), (q13, .inl (ca14, 8, .inl (fun _ => 0)))]) [0, 1, 2, 3, 4, 5, 6, 7] rfl
  have hD9 := hD.sub (ws' := [(h, .inr (1, [.ref q1, .ref q3, .ref q5, .ref q7, .ref q9, .ref q11, .ref q13, .int 0, .int 0])), (q1, .inl (ca2, 8, .inl (fun _ => 0))), (q3, .inl (ca4, 8, .inl (fun _ => 0))), (q5, .inl (ca6, 96, .inl (fun _ => 0))), (q7, .inl (ca8, 96, .inl (fun _ => 0))), (q9, .inl (ca10, 96, .inl (fun _ => 0))), (q11, .inl (ca12, 768, .inl (fun _ => 0))), (q13, .inl (ca14, 8, .inl (fun _ => 0)))]) [0, 1, 2, 3, 4, 5, 6, 7] (by decide) rfl
  have hK9 := hK.sub (tys' := [(ca2, .int), (ca4, .int), (ca6, .int), (ca8, .int), (ca10, .int), (ca12, .byte), (ca14, .boolean)]) [0, 1, 2, 3, 4, 5, 6] rfl
  obtain ⟨u9, hu9⟩ : ∃ u : (Nat → Nat → Nat) × (Nat → Nat → ClassId), u = ((fun i j => (([[], [q1, q3, q5, q7, q9, q11, q13]] : List (List _)).getD i []).getD j 0), (fun i j => (([[], [ca2, ca4, ca6, ca8, ca10, ca12, ca14]] : List (List _)).getD i []).getD j ca2)) := ⟨_, rfl⟩
  have hB9 : ∀ t : State, t.heap = H → s.WarmedH t.vm → (fun u t => va_P (dC, dI) classes [(h, .inr (1, [.ref (u.1 1 0), .ref (u.1 1 1), .ref (u.1 1 2), .ref (u.1 1 3), .ref (u.1 1 4), .ref (u.1 1 5), .ref (u.1 1 6), .int 0, .int 0])), ((u.1 1 0), .inl ((u.2 1 0), 8, .inl (fun _ => 0))), ((u.1 1 1), .inl ((u.2 1 1), 8, .inl (fun _ => 0))), ((u.1 1 2), .inl ((u.2 1 2), 96, .inl (fun _ => 0))), ((u.1 1 3), .inl ((u.2 1 3), 96, .inl (fun _ => 0))), ((u.1 1 4), .inl ((u.2 1 4), 96, .inl (fun _ => 0))), ((u.1 1 5), .inl ((u.2 1 5), 768, .inl (fun _ => 0))), ((u.1 1 6), .inl ((u.2 1 6), 8, .inl (fun _ => 0)))] t.heap ∧ va_K (dC, dI) classes [((u.2 1 0), .int), ((u.2 1 1), .int), ((u.2 1 2), .int), ((u.2 1 3), .int), ((u.2 1 4), .int), ((u.2 1 5), .byte), ((u.2 1 6), .boolean)] t ∧ va_D A [(h, .inr (1, [.ref (u.1 1 0), .ref (u.1 1 1), .ref (u.1 1 2), .ref (u.1 1 3), .ref (u.1 1 4), .ref (u.1 1 5), .ref (u.1 1 6), .int 0, .int 0])), ((u.1 1 0), .inl ((u.2 1 0), 8, .inl (fun _ => 0))), ((u.1 1 1), .inl ((u.2 1 1), 8, .inl (fun _ => 0))), ((u.1 1 2), .inl ((u.2 1 2), 96, .inl (fun _ => 0))), ((u.1 1 3), .inl ((u.2 1 3), 96, .inl (fun _ => 0))), ((u.1 1 4), .inl ((u.2 1 4), 96, .inl (fun _ => 0))), ((u.1 1 5), .inl ((u.2 1 5), 768, .inl (fun _ => 0))), ((u.1 1 6), .inl ((u.2 1 6), 8, .inl (fun _ => 0)))]) u9 t := by
    intro t ht9 hW
    rw [hu9]
    exact ⟨by rw [ht9]; exact hP9, va_K.moved hW.alike hK9, hD9⟩
  exact W.vret hx hb hr (fun t ht9 hW => ⟨⟨u9, rfl, trivial, hB9 t ht9 hW⟩, hS.F ht9⟩) hS.2.2 dX1_init_71
set_option maxHeartbeats 4000000 in
set_option maxRecDepth 100000 in
/-- X8_init -/
theorem c_X8_init (l : Launch) (dC : Nat → ClassId) (dI : Nat → Nat → Nat) (sz : Nat) (h : Nat) (b : Nat) : Met l yX8_init (wc yX8_init cX8_init 2 none) ({ frames := 1, cells := 1, slots := 200, locals := 40 } : Room) (pW (dC, dI) classes [(h, .inr (8, [.null, .null, .int 0, .int 0, .int 0, .int 0]))] [] sz [.ref h, .ref b]) (va_Qv (fun _ : ((Nat → Nat → Nat) × (Nat → Nat → ClassId)) => True) (fun u t => va_P (dC, dI) classes [(h, .inr (8, [.ref b, .ref (u.1 8 1), .int 0, .int (-1), .int 0, .int 0])), ((u.1 8 1), .inl ((u.2 8 1), 200, .inl (fun _ => 0)))] t.heap ∧ va_K (dC, dI) classes [((u.2 8 1), .byte)] t ∧ va_D (va_A [(h, .inr (8, [.null, .null, .int 0, .int 0, .int 0, .int 0]))] sz) [(h, .inr (8, [.ref b, .ref (u.1 8 1), .int 0, .int (-1), .int 0, .int 0])), ((u.1 8 1), .inl ((u.2 8 1), 200, .inl (fun _ => 0)))]) (va_A [(h, .inr (8, [.null, .null, .int 0, .int 0, .int 0, .int 0]))] sz)) 1 200 (va_A [(h, .inr (8, [.null, .null, .int 0, .int 0, .int 0, .int 0]))] sz) := by
  refine Met.ofW (cc := cX8_init) (maxL := 2) (ret := none) (by decide) rfl ?_
  intro p e s m args below meth c s₁ B hml hv
  obtain ⟨rfl, hsz, hP, hK, hD0⟩ := hv
  have hx := B.exec
  have hb := B.bytes
  have hr := B.returns
  have ht := tb_tl (atoms_spec (ws := wc yX8_init cX8_init 2 none) B.pre)
  have hown : s.vm.findClass RX8 = some m.cls := findClass_of_methodNamed B.named
  have hlocks := B.notSynchronized
  have hin : meth.name = "<init>" := (name_of_methodNamed B.named B.method).1
  subst hsz
  have hD := hD0.self (sz := s.heap.size)
  generalize hAe : va_A [(h, .inr (8, [.null, .null, .int 0, .int 0, .int 0, .int 0]))] s.heap.size = A at hD ⊢
  have hA : ∀ q : Nat, s.heap.size ≤ q → A q := fun q h => by rw [← hAe]; exact Or.inr h
  have hS : va_S A s.heap s.heap [] := va_S.rf
  have hP : va_P (dC, dI) classes [(h, .inr (8, [.null, .null, .int 0, .int 0, .int 0, .int 0]))] s.heap := hP
  have hl := lv_entry [.ref h, .ref b] (n := 2) (Nat.le_of_ble_eq_true rfl)
  rw [lg_entry_eq]
  generalize (lg_sl [.ref h, .ref b] ++ List.replicate (2 - (lg_sl [.ref h, .ref b]).length) Slot.unset).toArray = ls at hl ⊢
  have hl : lv_has ls 2 [(0, .ref h), (1, .ref b)] := hl
  refine lv_aload_n hx hb dX8_init_0 rfl (lv_at hl 0 rfl) ?_
  refine W.objInit hx hb hown (ht _ m_227) (ht _ m_103) (ht _ m_104) rfl (by rw [hml]; exact hl.1) rfl dX8_init_1 (Nat.le_of_ble_eq_true rfl) (Nat.le_of_ble_eq_true rfl) ?_
  refine W.eq (g2 := F0 m 4 ls []) rfl ?_
  refine lv_aload_n hx hb dX8_init_4 rfl (lv_at hl 0 rfl) ?_
  refine lv_sipush (v := 200) hx hb dX8_init_5 (by decide) ?_
  refine va_newa (atype := .byte) (ty := .byte) (a0 := (200, .inl (fun _ => 0))) (N' := 200) hx hb (ht _ m_220) rfl hK hP hD hS hA (fun _ => rfl) (by decide) (by decide) (by decide) (Nat.le_of_ble_eq_true rfl) (Nat.le_of_ble_eq_true rfl) dX8_init_8 (fun q1 ca2 H hK hP hD hS => ?_)
  have hP : va_P (dC, dI) classes [(h, .inr (8, [.null, .null, .int 0, .int 0, .int 0, .int 0])), (q1, .inl (ca2, 200, .inl (fun _ => 0)))] H := hP
  have hD : va_D A [(h, .inr (8, [.null, .null, .int 0, .int 0, .int 0, .int 0])), (q1, .inl (ca2, 200, .inl (fun _ => 0)))] := hD
  have hK : va_K (dC, dI) classes [(ca2, .byte)] s := hK
  refine W.widen (k := 1) (n := 200) (by decide) (by decide) ?_
  refine va_putF (D := (dC, dI)) (ci := 8) (v := .ref q1) (ty := (.array .byte)) (C := RX8) (T := TX8) (N := 6) hx hb ht inX8 tyX8 tyX8_ok nmX8 hown hK hP hD hS 0 rfl rfl 1 (by decide) (ht _ m_229) (fun _ h9 => h9) rfl hin rfl (by decide +kernel) rfl rfl (Nat.le_of_ble_eq_true rfl) dX8_init_10 (fun H locs hP hD hS => ?_)
  have hP : va_P (dC, dI) classes [(h, .inr (8, [.null, .ref q1, .int 0, .int 0, .int 0, .int 0])), (q1, .inl (ca2, 200, .inl (fun _ => 0)))] H := hP
  have hD : va_D A [(h, .inr (8, [.null, .ref q1, .int 0, .int 0, .int 0, .int 0])), (q1, .inl (ca2, 200, .inl (fun _ => 0)))] := hD
  refine lv_aload_n hx hb dX8_init_13 rfl (lv_at hl 0 rfl) ?_
  refine lv_iconst (v := 0) hx hb dX8_init_14 (by decide) ?_
  refine va_put (D := (dC, dI)) (ci := 8) (v := .int 0) (ty := (.int)) (C := RX8) (T := TX8) (N := 6) hx hb ht inX8 tyX8 tyX8_ok nmX8 hown hK hP hD hS 0 rfl rfl 2 (by decide) (ht _ m_230) (fun _ h9 => h9) rfl (by decide +kernel) rfl rfl (Nat.le_of_ble_eq_true rfl) dX8_init_15 (fun H locs hP hD hS => ?_)
  have hP : va_P (dC, dI) classes [(h, .inr (8, [.null, .ref q1, .int 0, .int 0, .int 0, .int 0])), (q1, .inl (ca2, 200, .inl (fun _ => 0)))] H := hP
  have hD : va_D A [(h, .inr (8, [.null, .ref q1, .int 0, .int 0, .int 0, .int 0])), (q1, .inl (ca2, 200, .inl (fun _ => 0)))] := hD
  refine lv_aload_n hx hb dX8_init_18 rfl (lv_at hl 0 rfl) ?_
  refine lv_iconst (v := (-1)) hx hb dX8_init_19 (by decide) ?_
  refine va_put (D := (dC, dI)) (ci := 8) (v := .int (-1)) (ty := (.int)) (C := RX8) (T := TX8) (N := 6) hx hb ht inX8 tyX8 tyX8_ok nmX8 hown hK hP hD hS 0 rfl rfl 3 (by decide) (ht _ m_232) (fun _ h9 => h9) rfl (by decide +kernel) rfl rfl (Nat.le_of_ble_eq_true rfl) dX8_init_20 (fun H locs hP hD hS => ?_)
  have hP : va_P (dC, dI) classes [(h, .inr (8, [.null, .ref q1, .int 0, .int (-1), .int 0, .int 0])), (q1, .inl (ca2, 200, .inl (fun _ => 0)))] H := hP
  have hD : va_D A [(h, .inr (8, [.null, .ref q1, .int 0, .int (-1), .int 0, .int 0])), (q1, .inl (ca2, 200, .inl (fun _ => 0)))] := hD
  refine lv_aload_n hx hb dX8_init_23 rfl (lv_at hl 0 rfl) ?_
  refine lv_iconst (v := 0) hx hb dX8_init_24 (by decide) ?_
  refine va_put (D := (dC, dI)) (ci := 8) (v := .int 0) (ty := (.int)) (C := RX8) (T := TX8) (N := 6) hx hb ht inX8 tyX8 tyX8_ok nmX8 hown hK hP hD hS 0 rfl rfl 4 (by decide) (ht _ m_234) (fun _ h9 => h9) rfl (by decide +kernel) rfl rfl (Nat.le_of_ble_eq_true rfl) dX8_init_25 (fun H locs hP hD hS => ?_)
  have hP : va_P (dC, dI) classes [(h, .inr (8, [.null, .ref q1, .int 0, .int (-1), .int 0, .int 0])), (q1, .inl (ca2, 200, .inl (fun _ => 0)))] H := hP
  have hD : va_D A [(h, .inr (8, [.null, .ref q1, .int 0, .int (-1), .int 0, .int 0])), (q1, .inl (ca2, 200, .inl (fun _ => 0)))] := hD
  refine lv_aload_n hx hb dX8_init_28 rfl (lv_at hl 0 rfl) ?_
  refine lv_iconst (v := 0) hx hb dX8_init_29 (by decide) ?_
  refine va_put (D := (dC, dI)) (ci := 8) (v := .int 0) (ty := (.int)) (C := RX8) (T := TX8) (N := 6) hx hb ht inX8 tyX8 tyX8_ok nmX8 hown hK hP hD hS 0 rfl rfl 5 (by decide) (ht _ m_235) (fun _ h9 => h9) rfl (by decide +kernel) rfl rfl (Nat.le_of_ble_eq_true rfl) dX8_init_30 (fun H locs hP hD hS => ?_)
  have hP : va_P (dC, dI) classes [(h, .inr (8, [.null, .ref q1, .int 0, .int (-1), .int 0, .int 0])), (q1, .inl (ca2, 200, .inl (fun _ => 0)))] H := hP
  have hD : va_D A [(h, .inr (8, [.null, .ref q1, .int 0, .int (-1), .int 0, .int 0])), (q1, .inl (ca2, 200, .inl (fun _ => 0)))] := hD
  refine lv_aload_n hx hb dX8_init_33 rfl (lv_at hl 0 rfl) ?_
  refine lv_aload_n hx hb dX8_init_34 rfl (lv_at hl 1 rfl) ?_
  refine va_putF (D := (dC, dI)) (ci := 8) (v := .ref b) (ty := (.object "SilkHouse$Book")) (C := RX8) (T := TX8) (N := 6) hx hb ht inX8 tyX8 tyX8_ok nmX8 hown hK hP hD hS 0 rfl rfl 0 (by decide) (ht _ m_228) (fun _ h9 => h9) rfl hin rfl (by decide +kernel) rfl rfl (Nat.le_of_ble_eq_true rfl) dX8_init_35 (fun H locs hP hD hS => ?_)
  have hP : va_P (dC, dI) classes [(h, .inr (8, [.ref b, .ref q1, .int 0, .int (-1), .int 0, .int 0])), (q1, .inl (ca2, 200, .inl (fun _ => 0)))] H := hP
  have hD : va_D A [(h, .inr (8, [.ref b, .ref q1, .int 0, .int (-1), .int 0, .int 0])), (q1, .inl (ca2, 200, .inl (fun _ => 0)))] := hD
  have hP9 := hP.sub (ws' := [(h, .inr (8, [.ref b, .ref q1, .int 0, .int (-1), .int 0, .int 0])), (q1, .inl (ca2, 200, .inl (fun _ => 0)))]) [0, 1] rfl
  have hD9 := hD.sub (ws' := [(h, .inr (8, [.ref b, .ref q1, .int 0, .int (-1), .int 0, .int 0])), (q1, .inl (ca2, 200, .inl (fun _ => 0)))]) [0, 1] (by decide) rfl
  have hK9 := hK.sub (tys' := [(ca2, .byte)]) [0] rfl
  obtain ⟨u9, hu9⟩ : ∃ u : (Nat → Nat → Nat) × (Nat → Nat → ClassId), u = ((fun i j => (([[], [], [], [], [], [], [], [], [0, q1]] : List (List _)).getD i []).getD j 0), (fun i j => (([[], [], [], [], [], [], [], [], [ca2, ca2]] : List (List _)).getD i []).getD j ca2)) := ⟨_, rfl⟩
  have hB9 : ∀ t : State, t.heap = H → s.WarmedH t.vm → (fun u t => va_P (dC, dI) classes [(h, .inr (8, [.ref b, .ref (u.1 8 1), .int 0, .int (-1), .int 0, .int 0])), ((u.1 8 1), .inl ((u.2 8 1), 200, .inl (fun _ => 0)))] t.heap ∧ va_K (dC, dI) classes [((u.2 8 1), .byte)] t ∧ va_D A [(h, .inr (8, [.ref b, .ref (u.1 8 1), .int 0, .int (-1), .int 0, .int 0])), ((u.1 8 1), .inl ((u.2 8 1), 200, .inl (fun _ => 0)))]) u9 t := by
    intro t ht9 hW
    rw [hu9]
    exact ⟨by rw [ht9]; exact hP9, va_K.moved hW.alike hK9, hD9⟩
  exact W.vret hx hb hr (fun t ht9 hW => ⟨⟨u9, rfl, trivial, hB9 t ht9 hW⟩, hS.F ht9⟩) hS.2.2 dX8_init_38
set_option maxHeartbeats 4000000 in
set_option maxRecDepth 100000 in
/-- X7_init -/
theorem c_X7_init (l : Launch) (dC : Nat → ClassId) (dI : Nat → Nat → Nat) (sz : Nat) (h : Nat) : Met l yX7_init (wc yX7_init cX7_init 1 none) ({ frames := 1, cells := 3, slots := 9, locals := 40 } : Room) (pW (dC, dI) classes [(h, .inr (7, [.null, .null, .null]))] [] sz [.ref h]) (va_Qv (fun _ : ((Nat → Nat → Nat) × (Nat → Nat → ClassId)) => True) (fun u t => va_P (dC, dI) classes [(h, .inr (7, [.ref (u.1 7 0), .ref (u.1 7 1), .ref (u.1 7 2)])), ((u.1 7 0), .inl ((u.2 7 0), 3, .inr (.inl (fun _ => 0)))), ((u.1 7 1), .inl ((u.2 7 1), 3, .inr (.inl (fun _ => 0)))), ((u.1 7 2), .inl ((u.2 7 2), 3, .inl (fun _ => 0)))] t.heap ∧ va_K (dC, dI) classes [((u.2 7 0), .long), ((u.2 7 1), .long), ((u.2 7 2), .int)] t ∧ va_D (va_A [(h, .inr (7, [.null, .null, .null]))] sz) [(h, .inr (7, [.ref (u.1 7 0), .ref (u.1 7 1), .ref (u.1 7 2)])), ((u.1 7 0), .inl ((u.2 7 0), 3, .inr (.inl (fun _ => 0)))), ((u.1 7 1), .inl ((u.2 7 1), 3, .inr (.inl (fun _ => 0)))), ((u.1 7 2), .inl ((u.2 7 2), 3, .inl (fun _ => 0)))]) (va_A [(h, .inr (7, [.null, .null, .null]))] sz)) 3 9 (va_A [(h, .inr (7, [.null, .null, .null]))] sz) := by
  refine Met.ofW (cc := cX7_init) (maxL := 1) (ret := none) (by decide) rfl ?_
  intro p e s m args below meth c s₁ B hml hv
  obtain ⟨rfl, hsz, hP, hK, hD0⟩ := hv
  have hx := B.exec
  have hb := B.bytes
  have hr := B.returns
  have ht := tb_tl (atoms_spec (ws := wc yX7_init cX7_init 1 none) B.pre)
  have hown : s.vm.findClass RX7 = some m.cls := findClass_of_methodNamed B.named
  have hlocks := B.notSynchronized
  have hin : meth.name = "<init>" := (name_of_methodNamed B.named B.method).1
  subst hsz
  have hD := hD0.self (sz := s.heap.size)
  generalize hAe : va_A [(h, .inr (7, [.null, .null, .null]))] s.heap.size = A at hD ⊢
  have hA : ∀ q : Nat, s.heap.size ≤ q → A q := fun q h => by rw [← hAe]; exact Or.inr h
  have hS : va_S A s.heap s.heap [] := va_S.rf
  have hP : va_P (dC, dI) classes [(h, .inr (7, [.null, .null, .null]))] s.heap := hP
  have hl := lv_entry [.ref h] (n := 1) (Nat.le_of_ble_eq_true rfl)
  rw [lg_entry_eq]
  generalize (lg_sl [.ref h] ++ List.replicate (1 - (lg_sl [.ref h]).length) Slot.unset).toArray = ls at hl ⊢
  have hl : lv_has ls 1 [(0, .ref h)] := hl
  refine lv_aload_n hx hb dX7_init_0 rfl (lv_at hl 0 rfl) ?_
  refine W.objInit hx hb hown (ht _ m_260) (ht _ m_103) (ht _ m_104) rfl (by rw [hml]; exact hl.1) rfl dX7_init_1 (Nat.le_of_ble_eq_true rfl) (Nat.le_of_ble_eq_true rfl) ?_
  refine W.eq (g2 := F0 m 4 ls []) rfl ?_
  refine lv_aload_n hx hb dX7_init_4 rfl (lv_at hl 0 rfl) ?_
  refine lv_iconst (v := 3) hx hb dX7_init_5 (by decide) ?_
  refine va_newa (atype := .long) (ty := .long) (a0 := (3, .inr (.inl (fun _ => 0)))) (N' := 3) hx hb (ht _ m_278) rfl hK hP hD hS hA (fun _ => rfl) (by decide) (by decide) (by decide) (Nat.le_of_ble_eq_true rfl) (Nat.le_of_ble_eq_true rfl) dX7_init_6 (fun q1 ca2 H hK hP hD hS => ?_)
  have hP : va_P (dC, dI) classes [(h, .inr (7, [.null, .null, .null])), (q1, .inl (ca2, 3, .inr (.inl (fun _ => 0))))] H := hP
  have hD : va_D A [(h, .inr (7, [.null, .null, .null])), (q1, .inl (ca2, 3, .inr (.inl (fun _ => 0))))] := hD
  have hK : va_K (dC, dI) classes [(ca2, .long)] s := hK
  refine W.widen (k := 1) (n := 3) (by decide) (by decide) ?_
  refine va_putF (D := (dC, dI)) (ci := 7) (v := .ref q1) (ty := (.array .long)) (C := RX7) (T := TX7) (N := 3) hx hb ht inX7 tyX7 tyX7_ok nmX7 hown hK hP hD hS 0 rfl rfl 0 (by decide) (ht _ m_261) (fun _ h9 => h9) rfl hin rfl (by decide +kernel) rfl rfl (Nat.le_of_ble_eq_true rfl) dX7_init_8 (fun H locs hP hD hS => ?_)
  have hP : va_P (dC, dI) classes [(h, .inr (7, [.ref q1, .null, .null])), (q1, .inl (ca2, 3, .inr (.inl (fun _ => 0))))] H := hP
  have hD : va_D A [(h, .inr (7, [.ref q1, .null, .null])), (q1, .inl (ca2, 3, .inr (.inl (fun _ => 0))))] := hD
  refine lv_aload_n hx hb dX7_init_11 rfl (lv_at hl 0 rfl) ?_
  refine lv_iconst (v := 3) hx hb dX7_init_12 (by decide) ?_
  refine va_newa (atype := .long) (ty := .long) (a0 := (3, .inr (.inl (fun _ => 0)))) (N' := 3) hx hb (ht _ m_278) rfl hK hP hD hS hA (fun _ => rfl) (by decide) (by decide) (by decide) (Nat.le_of_ble_eq_true rfl) (Nat.le_of_ble_eq_true rfl) dX7_init_13 (fun q3 ca4 H hK hP hD hS => ?_)
  have hP : va_P (dC, dI) classes [(h, .inr (7, [.ref q1, .null, .null])), (q1, .inl (ca2, 3, .inr (.inl (fun _ => 0)))), (q3, .inl (ca4, 3, .inr (.inl (fun _ => 0))))] H := hP
  have hD : va_D A [(h, .inr (7, [.ref q1, .null, .null])), (q1, .inl (ca2, 3, .inr (.inl (fun _ => 0)))), (q3, .inl (ca4, 3, .inr (.inl (fun _ => 0))))] := hD
  have hK : va_K (dC, dI) classes [(ca2, .long), (ca4, .long)] s := hK
  refine W.widen (k := 2) (n := 6) (by decide) (by decide) ?_
  refine va_putF (D := (dC, dI)) (ci := 7) (v := .ref q3) (ty := (.array .long)) (C := RX7) (T := TX7) (N := 3) hx hb ht inX7 tyX7 tyX7_ok nmX7 hown hK hP hD hS 0 rfl rfl 1 (by decide) (ht _ m_264) (fun _ h9 => h9) rfl hin rfl (by decide +kernel) rfl rfl (Nat.le_of_ble_eq_true rfl) dX7_init_15 (fun H locs hP hD hS => ?_)
  have hP : va_P (dC, dI) classes [(h, .inr (7, [.ref q1, .ref q3, .null])), (q1, .inl (ca2, 3, .inr (.inl (fun _ => 0)))), (q3, .inl (ca4, 3, .inr (.inl (fun _ => 0))))] H := hP
  have hD : va_D A [(h, .inr (7, [.ref q1, .ref q3, .null])), (q1, .inl (ca2, 3, .inr (.inl (fun _ => 0)))), (q3, .inl (ca4, 3, .inr (.inl (fun _ => 0))))] := hD
  refine lv_aload_n hx hb dX7_init_18 rfl (lv_at hl 0 rfl) ?_
  refine lv_iconst (v := 3) hx hb dX7_init_19 (by decide) ?_
  refine va_newa (atype := .int) (ty := .int) (a0 := (3, .inl (fun _ => 0))) (N' := 3) hx hb (ht _ m_125) rfl hK hP hD hS hA (fun _ => rfl) (by decide) (by decide) (by decide) (Nat.le_of_ble_eq_true rfl) (Nat.le_of_ble_eq_true rfl) dX7_init_20 (fun q5 ca6 H hK hP hD hS => ?_)
  have hP : va_P (dC, dI) classes [(h, .inr (7, [.ref q1, .ref q3, .null])), (q1, .inl (ca2, 3, .inr (.inl (fun _ => 0)))), (q3, .inl (ca4, 3, .inr (.inl (fun _ => 0)))), (q5, .inl (ca6, 3, .inl (fun _ => 0)))] H := hP
  have hD : va_D A [(h, .inr (7, [.ref q1, .ref q3, .null])), (q1, .inl (ca2, 3, .inr (.inl (fun _ => 0)))), (q3, .inl (ca4, 3, .inr (.inl (fun _ => 0)))), (q5, .inl (ca6, 3, .inl (fun _ => 0)))] := hD
  have hK : va_K (dC, dI) classes [(ca2, .long), (ca4, .long), (ca6, .int)] s := hK
  refine W.widen (k := 3) (n := 9) (by decide) (by decide) ?_
  refine va_putF (D := (dC, dI)) (ci := 7) (v := .ref q5) (ty := (.array .int)) (C := RX7) (T := TX7) (N := 3) hx hb ht inX7 tyX7 tyX7_ok nmX7 hown hK hP hD hS 0 rfl rfl 2 (by decide) (ht _ m_267) (fun _ h9 => h9) rfl hin rfl (by decide +kernel) rfl rfl (Nat.le_of_ble_eq_true rfl) dX7_init_22 (fun H locs hP hD hS => ?_)
  have hP : va_P (dC, dI) classes [(h, .inr (7, [.ref q1, .ref q3, .ref q5])), (q1, .inl (ca2, 3, .inr (.inl (fun _ => 0)))), (q3, .inl (ca4, 3, .inr (.inl (fun _ => 0)))), (q5, .inl (ca6, 3, .inl (fun _ => 0)))] H := hP
  have hD : va_D A [(h, .inr (7, [.ref q1, .ref q3, .ref q5])), (q1, .inl (ca2, 3, .inr (.inl (fun _ => 0)))), (q3, .inl (ca4, 3, .inr (.inl (fun _ => 0)))), (q5, .inl (ca6, 3, .inl (fun _ => 0)))] := hD
  have hP9 := hP.sub (ws' := [(h, .inr (7, [.ref q1, .ref q3, .ref q5])), (q1, .inl (ca2, 3, .inr (.inl (fun _ => 0)))), (q3, .inl (ca4, 3, .inr (.inl (fun _ => 0)))), (q5, .inl (ca6, 3, .inl (fun _ => 0)))]) [0, 1, 2, 3] rfl
  have hD9 := hD.sub (ws' := [(h, .inr (7, [.ref q1, .ref q3, .ref q5])), (q1, .inl (ca2, 3, .inr (.inl (fun _ => 0)))), (q3, .inl (ca4, 3, .inr (.inl (fun _ => 0)))), (q5, .inl (ca6, 3, .inl (fun _ => 0)))]) [0, 1, 2, 3] (by decide) rfl
  have hK9 := hK.sub (tys' := [(ca2, .long), (ca4, .long), (ca6, .int)]) [0, 1, 2] rfl
  obtain ⟨u9, hu9⟩ : ∃ u : (Nat → Nat → Nat) × (Nat → Nat → ClassId), u = ((fun i j => (([[], [], [], [], [], [], [], [q1, q3, q5]] : List (List _)).getD i []).getD j 0), (fun i j => (([[], [], [], [], [], [], [], [ca2, ca4, ca6]] : List (List _)).getD i []).getD j ca2)) := ⟨_, rfl⟩
  have hB9 : ∀ t : State, t.heap = H → s.WarmedH t.vm → (fun u t => va_P (dC, dI) classes [(h, .inr (7, [.ref (u.1 7 0), .ref (u.1 7 1), .ref (u.1 7 2)])), ((u.1 7 0), .inl ((u.2 7 0), 3, .inr (.inl (fun _ => 0)))), ((u.1 7 1), .inl ((u.2 7 1), 3, .inr (.inl (fun _ => 0)))), ((u.1 7 2), .inl ((u.2 7 2), 3, .inl (fun _ => 0)))] t.heap ∧ va_K (dC, dI) classes [((u.2 7 0), .long), ((u.2 7 1), .long), ((u.2 7 2), .int)] t ∧ va_D A [(h, .inr (7, [.ref (u.1 7 0), .ref (u.1 7 1), .ref (u.1 7 2)])), ((u.1 7 0), .inl ((u.2 7 0), 3, .inr (.inl (fun _ => 0)))), ((u.1 7 1), .inl ((u.2 7 1), 3, .inr (.inl (fun _ => 0)))), ((u.1 7 2), .inl ((u.2 7 2), 3, .inl (fun _ => 0)))]) u9 t := by
    intro t ht9 hW
    rw [hu9]
    exact ⟨by rw [ht9]; exact hP9, va_K.moved hW.alike hK9, hD9⟩
  exact W.vret hx hb hr (fun t ht9 hW => ⟨⟨u9, rfl, trivial, hB9 t ht9 hW⟩, hS.F ht9⟩) hS.2.2 dX7_init_25
set_option maxHeartbeats 4000000 in
set_option maxRecDepth 100000 in
/-- X3_init -/
theorem c_X3_init (l : Launch) (dC : Nat → ClassId) (dI : Nat → Nat → Nat) (sz : Nat) (h : Nat) (a : Nat) (b : Nat) : Met l yX3_init (wc yX3_init cX3_init 3 none) ({ frames := 2, cells := 4, slots := 12, locals := 60 } : Room) (va_Pc [.ref h, .ref a, .ref b] (fun U => U.heap.size = sz ∧ va_P (dC, dI) classes [(h, .inr (3, [.null, .null, .null, .int 0, .int 0]))] U.heap ∧ va_K (dC, dI) classes [] U ∧ va_D (fun _ => True) [(h, .inr (3, [.null, .null, .null, .int 0, .int 0]))] ∧ nw U)) (va_Qv (fun _ : ((Nat → Nat → Nat) × (Nat → Nat → ClassId)) => True) (fun u t => va_P (dC, dI) classes [(h, .inr (3, [.ref a, .ref b, .ref (u.1 3 2), .int 0, .int 0])), ((u.1 3 2), .inr (7, [.ref (u.1 30 0), .ref (u.1 30 1), .ref (u.1 30 2)])), ((u.1 30 0), .inl ((u.2 30 0), 3, .inr (.inl (fun _ => 0)))), ((u.1 30 1), .inl ((u.2 30 1), 3, .inr (.inl (fun _ => 0)))), ((u.1 30 2), .inl ((u.2 30 2), 3, .inl (fun _ => 0)))] t.heap ∧ va_K (dC, dI) classes [((u.2 30 0), .long), ((u.2 30 1), .long), ((u.2 30 2), .int)] t ∧ va_D (va_A [(h, .inr (3, [.null, .null, .null, .int 0, .int 0]))] sz) [(h, .inr (3, [.ref a, .ref b, .ref (u.1 3 2), .int 0, .int 0])), ((u.1 3 2), .inr (7, [.ref (u.1 30 0), .ref (u.1 30 1), .ref (u.1 30 2)])), ((u.1 30 0), .inl ((u.2 30 0), 3, .inr (.inl (fun _ => 0)))), ((u.1 30 1), .inl ((u.2 30 1), 3, .inr (.inl (fun _ => 0)))), ((u.1 30 2), .inl ((u.2 30 2), 3, .inl (fun _ => 0)))]) (va_A [(h, .inr (3, [.null, .null, .null, .int 0, .int 0]))] sz)) 4 12 (va_A [(h, .inr (3, [.null, .null, .null, .int 0, .int 0]))] sz) := by
  refine Met.ofW (cc := cX3_init) (maxL := 3) (ret := none) (by decide) rfl ?_
  intro p e s m args below meth c s₁ B hml hv
  obtain ⟨rfl, hsz, hP, hK, hD0, hN⟩ := hv
  have hx := B.exec
  have hb := B.bytes
  have hr := B.returns
  have ht := tb_tl (atoms_spec (ws := wc yX3_init cX3_init 3 none) B.pre)
  have hown : s.vm.findClass RX3 = some m.cls := findClass_of_methodNamed B.named
  have hlocks := B.notSynchronized
  have hin : meth.name = "<init>" := (name_of_methodNamed B.named B.method).1
  subst hsz
  have hD := hD0.self (sz := s.heap.size)
  generalize hAe : va_A [(h, .inr (3, [.null, .null, .null, .int 0, .int 0]))] s.heap.size = A at hD ⊢
  have hA : ∀ q : Nat, s.heap.size ≤ q → A q := fun q h => by rw [← hAe]; exact Or.inr h
  have hS : va_S A s.heap s.heap [] := va_S.rf
  have hP : va_P (dC, dI) classes [(h, .inr (3, [.null, .null, .null, .int 0, .int 0]))] s.heap := hP
  have hl := lv_entry [.ref h, .ref a, .ref b] (n := 3) (Nat.le_of_ble_eq_true rfl)
  rw [lg_entry_eq]
  generalize (lg_sl [.ref h, .ref a, .ref b] ++ List.replicate (3 - (lg_sl [.ref h, .ref a, .ref b]).length) Slot.unset).toArray = ls at hl ⊢
  have hl : lv_has ls 3 [(0, .ref h), (1, .ref a), (2, .ref b)] := hl
  refine lv_aload_n hx hb dX3_init_0 rfl (lv_at hl 0 rfl) ?_
  refine W.objInit hx hb hown (ht _ m_254) (ht _ m_103) (ht _ m_104) rfl (by rw [hml]; exact hl.1) rfl dX3_init_1 (Nat.le_of_ble_eq_true rfl) (Nat.le_of_ble_eq_true rfl) ?_
  refine W.eq (g2 := F0 m 4 ls []) rfl ?_
  refine lv_aload_n hx hb dX3_init_4 rfl (lv_at hl 0 rfl) ?_
  refine va_new (ci := 7) (fs := [.null, .null, .null]) (C := RX7) (T := TX7) (N := 3) hx hb ht inX7 tyX7 tyX7_ok hown (ht _ m_255) (ht _ m_256) (ht _ m_84) hK hP hD hS hA rfl (new_X7) (Nat.le_of_ble_eq_true rfl) (Nat.le_of_ble_eq_true rfl) dX3_init_5 (fun q1 H hP hD hS => ?_)
  have hP : va_P (dC, dI) classes [(h, .inr (3, [.null, .null, .null, .int 0, .int 0])), (q1, .inr (7, [.null, .null, .null]))] H := hP
  have hD : va_D A [(h, .inr (3, [.null, .null, .null, .int 0, .int 0])), (q1, .inr (7, [.null, .null, .null]))] := hD
  refine W.widen (k := 1) (n := 3) (by decide) (by decide) ?_
  refine lv_dup hx hb dX3_init_8 rfl ?_
  have hPc := hP.sub (ws' := [(q1, .inr (7, [.null, .null, .null]))]) [1] rfl
  have hKc := hK.sub (tys' := []) [] rfl
  have hDc := hD.sub (ws' := [(q1, .inr (7, [.null, .null, .null]))]) [1] (by decide) rfl
  have hFc := va_free (wc := [(q1, .inr (7, [.null, .null, .null]))]) hD hS hA [1] rfl
  refine va_callv (va_runIN (As := []) (rest := [.ref q1, .ref h]) ⟨hx, hb, hml, hown, ht⟩ (c_X7_init l dC dI H.size q1) ⟨va_cnB 0 ht (tb_wc m_259) rfl rfl rfl (hN _ (List.mem_of_getElem? (l := NL) (i := 4) rfl)) (ht _ m_84) hd_X7_init_i ⟨Nat.le_of_ble_eq_true rfl, Nat.le_of_ble_eq_true rfl⟩, rfl, ht _ m_258⟩ (sW hPc hKc hDc) rfl rfl hl.1 rfl (lv_room (Nat.le_of_ble_eq_true rfl)) dX3_init_9 ⟨Nat.le_of_ble_eq_true rfl, Nat.le_of_ble_eq_true rfl⟩) hS (fun q _ h => hFc q h) hFc (fun u t H1 locs ht9 hvm hw hB hz1 hk1 hS => ?_)
  obtain ⟨g3, c3⟩ := u
  obtain ⟨hP1, hK1, hD1⟩ := hB
  rw [ht9] at hP1
  have hK1 := va_K.moved hvm.symm hK1
  have hP1 : va_P (dC, dI) classes [(q1, .inr (7, [.ref (g3 7 0), .ref (g3 7 1), .ref (g3 7 2)])), ((g3 7 0), .inl ((c3 7 0), 3, .inr (.inl (fun _ => 0)))), ((g3 7 1), .inl ((c3 7 1), 3, .inr (.inl (fun _ => 0)))), ((g3 7 2), .inl ((c3 7 2), 3, .inl (fun _ => 0)))] H1 := hP1
  have hD1 : va_D (va_A [(q1, .inr (7, [.null, .null, .null]))] H.size) [(q1, .inr (7, [.ref (g3 7 0), .ref (g3 7 1), .ref (g3 7 2)])), ((g3 7 0), .inl ((c3 7 0), 3, .inr (.inl (fun _ => 0)))), ((g3 7 1), .inl ((c3 7 1), 3, .inr (.inl (fun _ => 0)))), ((g3 7 2), .inl ((c3 7 2), 3, .inl (fun _ => 0)))] := hD1
  have hK1 : va_K (dC, dI) classes [((c3 7 0), .long), ((c3 7 1), .long), ((c3 7 2), .int)] s := hK1
  obtain ⟨hP, hD⟩ := va_join (wr := [(h, .inr (3, [.null, .null, .null, .int 0, .int 0]))]) (w1 := [(q1, .inr (7, [.ref (g3 7 0), .ref (g3 7 1), .ref (g3 7 2)])), ((g3 7 0), .inl ((c3 7 0), 3, .inr (.inl (fun _ => 0)))), ((g3 7 1), .inl ((c3 7 1), 3, .inr (.inl (fun _ => 0)))), ((g3 7 2), .inl ((c3 7 2), 3, .inl (fun _ => 0)))]) hP hD [1] [0] rfl rfl (by decide) (by decide) hk1 hFc hP1 hD1
  have hK := hK.app hK1
  generalize H1 = H at hP hS ⊢
  have hP : va_P (dC, dI) classes [(h, .inr (3, [.null, .null, .null, .int 0, .int 0])), (q1, .inr (7, [.ref (g3 7 0), .ref (g3 7 1), .ref (g3 7 2)])), ((g3 7 0), .inl ((c3 7 0), 3, .inr (.inl (fun _ => 0)))), ((g3 7 1), .inl ((c3 7 1), 3, .inr (.inl (fun _ => 0)))), ((g3 7 2), .inl ((c3 7 2), 3, .inl (fun _ => 0)))] H := hP
  have hD : va_D A [(h, .inr (3, [.null, .null, .null, .int 0, .int 0])), (q1, .inr (7, [.ref (g3 7 0), .ref (g3 7 1), .ref (g3 7 2)])), ((g3 7 0), .inl ((c3 7 0), 3, .inr (.inl (fun _ => 0)))), ((g3 7 1), .inl ((c3 7 1), 3, .inr (.inl (fun _ => 0)))), ((g3 7 2), .inl ((c3 7 2), 3, .inl (fun _ => 0)))] := hD
  have hK : va_K (dC, dI) classes [((c3 7 0), .long), ((c3 7 1), .long), ((c3 7 2), .int)] s := hK
  refine W.widen (k := 4) (n := 12) (by decide) (by decide) ?_
  refine va_putF (D := (dC, dI)) (ci := 3) (v := .ref q1) (ty := (.object "SilkHouse$Piles")) (C := RX3) (T := TX3) (N := 5) hx hb ht inX3 tyX3 tyX3_ok nmX3 hown hK hP hD hS 0 rfl rfl 2 (by decide) (ht _ m_281) (fun _ h9 => h9) rfl hin rfl (by decide +kernel) rfl rfl (Nat.le_of_ble_eq_true rfl) dX3_init_12 (fun H locs hP hD hS => ?_)
  have hP : va_P (dC, dI) classes [(h, .inr (3, [.null, .null, .ref q1, .int 0, .int 0])), (q1, .inr (7, [.ref (g3 7 0), .ref (g3 7 1), .ref (g3 7 2)])), ((g3 7 0), .inl ((c3 7 0), 3, .inr (.inl (fun _ => 0)))), ((g3 7 1), .inl ((c3 7 1), 3, .inr (.inl (fun _ => 0)))), ((g3 7 2), .inl ((c3 7 2), 3, .inl (fun _ => 0)))] H := hP
  have hD : va_D A [(h, .inr (3, [.null, .null, .ref q1, .int 0, .int 0])), (q1, .inr (7, [.ref (g3 7 0), .ref (g3 7 1), .ref (g3 7 2)])), ((g3 7 0), .inl ((c3 7 0), 3, .inr (.inl (fun _ => 0)))), ((g3 7 1), .inl ((c3 7 1), 3, .inr (.inl (fun _ => 0)))), ((g3 7 2), .inl ((c3 7 2), 3, .inl (fun _ => 0)))] := hD
  refine lv_aload_n hx hb dX3_init_15 rfl (lv_at hl 0 rfl) ?_
  refine lv_iconst (v := 0) hx hb dX3_init_16 (by decide) ?_
  refine va_put (D := (dC, dI)) (ci := 3) (v := .int 0) (ty := (.int)) (C := RX3) (T := TX3) (N := 5) hx hb ht inX3 tyX3 tyX3_ok nmX3 hown hK hP hD hS 0 rfl rfl 3 (by decide) (ht _ m_283) (fun _ h9 => h9) rfl (by decide +kernel) rfl rfl (Nat.le_of_ble_eq_true rfl) dX3_init_17 (fun H locs hP hD hS => ?_)
  have hP : va_P (dC, dI) classes [(h, .inr (3, [.null, .null, .ref q1, .int 0, .int 0])), (q1, .inr (7, [.ref (g3 7 0), .ref (g3 7 1), .ref (g3 7 2)])), ((g3 7 0), .inl ((c3 7 0), 3, .inr (.inl (fun _ => 0)))), ((g3 7 1), .inl ((c3 7 1), 3, .inr (.inl (fun _ => 0)))), ((g3 7 2), .inl ((c3 7 2), 3, .inl (fun _ => 0)))] H := hP
  have hD : va_D A [(h, .inr (3, [.null, .null, .ref q1, .int 0, .int 0])), (q1, .inr (7, [.ref (g3 7 0), .ref (g3 7 1), .ref (g3 7 2)])), ((g3 7 0), .inl ((c3 7 0), 3, .inr (.inl (fun _ => 0)))), ((g3 7 1), .inl ((c3 7 1), 3, .inr (.inl (fun _ => 0)))), ((g3 7 2), .inl ((c3 7 2), 3, .inl (fun _ => 0)))] := hD
  refine lv_aload_n hx hb dX3_init_20 rfl (lv_at hl 0 rfl) ?_
  refine lv_iconst (v := 0) hx hb dX3_init_21 (by decide) ?_
  refine va_put (D := (dC, dI)) (ci := 3) (v := .int 0) (ty := (.int)) (C := RX3) (T := TX3) (N := 5) hx hb ht inX3 tyX3 tyX3_ok nmX3 hown hK hP hD hS 0 rfl rfl 4 (by decide) (ht _ m_284) (fun _ h9 => h9) rfl (by decide +kernel) rfl rfl (Nat.le_of_ble_eq_true rfl) dX3_init_22 (fun H locs hP hD hS => ?_)
  have hP : va_P (dC, dI) classes [(h, .inr (3, [.null, .null, .ref q1, .int 0, .int 0])), (q1, .inr (7, [.ref (g3 7 0), .ref (g3 7 1), .ref (g3 7 2)])), ((g3 7 0), .inl ((c3 7 0), 3, .inr (.inl (fun _ => 0)))), ((g3 7 1), .inl ((c3 7 1), 3, .inr (.inl (fun _ => 0)))), ((g3 7 2), .inl ((c3 7 2), 3, .inl (fun _ => 0)))] H := hP
  have hD : va_D A [(h, .inr (3, [.null, .null, .ref q1, .int 0, .int 0])), (q1, .inr (7, [.ref (g3 7 0), .ref (g3 7 1), .ref (g3 7 2)])), ((g3 7 0), .inl ((c3 7 0), 3, .inr (.inl (fun _ => 0)))), ((g3 7 1), .inl ((c3 7 1), 3, .inr (.inl (fun _ => 0)))), ((g3 7 2), .inl ((c3 7 2), 3, .inl (fun _ => 0)))] := hD
  refine lv_aload_n hx hb dX3_init_25 rfl (lv_at hl 0 rfl) ?_
  refine lv_aload_n hx hb dX3_init_26 rfl (lv_at hl 1 rfl) ?_
  refine va_putF (D := (dC, dI)) (ci := 3) (v := .ref a) (ty := (.object "SilkHouse$Skeins")) (C := RX3) (T := TX3) (N := 5) hx hb ht inX3 tyX3 tyX3_ok nmX3 hown hK hP hD hS 0 rfl rfl 0 (by decide) (ht _ m_279) (fun _ h9 => h9) rfl hin rfl (by decide +kernel) rfl rfl (Nat.le_of_ble_eq_true rfl) dX3_init_27 (fun H locs hP hD hS => ?_)
  have hP : va_P (dC, dI) classes [(h, .inr (3, [.ref a, .null, .ref q1, .int 0, .int 0])), (q1, .inr (7, [.ref (g3 7 0), .ref (g3 7 1), .ref (g3 7 2)])), ((g3 7 0), .inl ((c3 7 0), 3, .inr (.inl (fun _ => 0)))), ((g3 7 1), .inl ((c3 7 1), 3, .inr (.inl (fun _ => 0)))), ((g3 7 2), .inl ((c3 7 2), 3, .inl (fun _ => 0)))] H := hP
  have hD : va_D A [(h, .inr (3, [.ref a, .null, .ref q1, .int 0, .int 0])), (q1, .inr (7, [.ref (g3 7 0), .ref (g3 7 1), .ref (g3 7 2)])), ((g3 7 0), .inl ((c3 7 0), 3, .inr (.inl (fun _ => 0)))), ((g3 7 1), .inl ((c3 7 1), 3, .inr (.inl (fun _ => 0)))), ((g3 7 2), .inl ((c3 7 2), 3, .inl (fun _ => 0)))] := hD
  refine lv_aload_n hx hb dX3_init_30 rfl (lv_at hl 0 rfl) ?_
  refine lv_aload_n hx hb dX3_init_31 rfl (lv_at hl 2 rfl) ?_
  refine va_putF (D := (dC, dI)) (ci := 3) (v := .ref b) (ty := (.object "SilkHouse$Book")) (C := RX3) (T := TX3) (N := 5) hx hb ht inX3 tyX3 tyX3_ok nmX3 hown hK hP hD hS 0 rfl rfl 1 (by decide) (ht _ m_280) (fun _ h9 => h9) rfl hin rfl (by decide +kernel) rfl rfl (Nat.le_of_ble_eq_true rfl) dX3_init_32 (fun H locs hP hD hS => ?_)
  have hP : va_P (dC, dI) classes [(h, .inr (3, [.ref a, .ref b, .ref q1, .int 0, .int 0])), (q1, .inr (7, [.ref (g3 7 0), .ref (g3 7 1), .ref (g3 7 2)])), ((g3 7 0), .inl ((c3 7 0), 3, .inr (.inl (fun _ => 0)))), ((g3 7 1), .inl ((c3 7 1), 3, .inr (.inl (fun _ => 0)))), ((g3 7 2), .inl ((c3 7 2), 3, .inl (fun _ => 0)))] H := hP
  have hD : va_D A [(h, .inr (3, [.ref a, .ref b, .ref q1, .int 0, .int 0])), (q1, .inr (7, [.ref (g3 7 0), .ref (g3 7 1), .ref (g3 7 2)])), ((g3 7 0), .inl ((c3 7 0), 3, .inr (.inl (fun _ => 0)))), ((g3 7 1), .inl ((c3 7 1), 3, .inr (.inl (fun _ => 0)))), ((g3 7 2), .inl ((c3 7 2), 3, .inl (fun _ => 0)))] := hD
  have hP9 := hP.sub (ws' := [(h, .inr (3, [.ref a, .ref b, .ref q1, .int 0, .int 0])), (q1, .inr (7, [.ref (g3 7 0), .ref (g3 7 1), .ref (g3 7 2)])), ((g3 7 0), .inl ((c3 7 0), 3, .inr (.inl (fun _ => 0)))), ((g3 7 1), .inl ((c3 7 1), 3, .inr (.inl (fun _ => 0)))), ((g3 7 2), .inl ((c3 7 2), 3, .inl (fun _ => 0)))]) [0, 1, 2, 3, 4] rfl
  have hD9 := hD.sub (ws' := [(h, .inr (3, [.ref a, .ref b, .ref q1, .int 0, .int 0])), (q1, .inr (7, [.ref (g3 7 0), .ref (g3 7 1), .ref (g3 7 2)])), ((g3 7 0), .inl ((c3 7 0), 3, .inr (.inl (fun _ => 0)))), ((g3 7 1), .inl ((c3 7 1), 3, .inr (.inl (fun _ => 0)))), ((g3 7 2), .inl ((c3 7 2), 3, .inl (fun _ => 0)))]) [0, 1, 2, 3, 4] (by decide) rfl
  have hK9 := hK.sub (tys' := [((c3 7 0), .long), ((c3 7 1), .long), ((c3 7 2), .int)]) [0, 1, 2] rfl
  obtain ⟨u9, hu9⟩ : ∃ u : (Nat → Nat → Nat) × (Nat → Nat → ClassId), u = ((fun i j => (([[], [], [], [0, 0, q1], [], [], [], [], [], [], [], [], [], [], [], [], [], [], [], [], [], [], [], [], [], [], [], [], [], [], [(g3 7 0), (g3 7 1), (g3 7 2)]] : List (List _)).getD i []).getD j 0), (fun i j => (([[], [], [], [], [], [], [], [], [], [], [], [], [], [], [], [], [], [], [], [], [], [], [], [], [], [], [], [], [], [], [(c3 7 0), (c3 7 1), (c3 7 2)]] : List (List _)).getD i []).getD j (c3 7 0))) := ⟨_, rfl⟩
  have hB9 : ∀ t : State, t.heap = H → s.WarmedH t.vm → (fun u t => va_P (dC, dI) classes [(h, .inr (3, [.ref a, .ref b, .ref (u.1 3 2), .int 0, .int 0])), ((u.1 3 2), .inr (7, [.ref (u.1 30 0), .ref (u.1 30 1), .ref (u.1 30 2)])), ((u.1 30 0), .inl ((u.2 30 0), 3, .inr (.inl (fun _ => 0)))), ((u.1 30 1), .inl ((u.2 30 1), 3, .inr (.inl (fun _ => 0)))), ((u.1 30 2), .inl ((u.2 30 2), 3, .inl (fun _ => 0)))] t.heap ∧ va_K (dC, dI) classes [((u.2 30 0), .long), ((u.2 30 1), .long), ((u.2 30 2), .int)] t ∧ va_D A [(h, .inr (3, [.ref a, .ref b, .ref (u.1 3 2), .int 0, .int 0])), ((u.1 3 2), .inr (7, [.ref (u.1 30 0), .ref (u.1 30 1), .ref (u.1 30 2)])), ((u.1 30 0), .inl ((u.2 30 0), 3, .inr (.inl (fun _ => 0)))), ((u.1 30 1), .inl ((u.2 30 1), 3, .inr (.inl (fun _ => 0)))), ((u.1 30 2), .inl ((u.2 30 2), 3, .inl (fun _ => 0)))]) u9 t := by
    intro t ht9 hW
    rw [hu9]
    exact ⟨by rw [ht9]; exact hP9, va_K.moved hW.alike hK9, hD9⟩
  exact W.vret hx hb hr (fun t ht9 hW => ⟨⟨u9, rfl, trivial, hB9 t ht9 hW⟩, hS.F ht9⟩) hS.2.2 dX3_init_35
