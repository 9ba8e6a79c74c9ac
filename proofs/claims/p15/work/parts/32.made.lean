/-! ===== made ===== -/
set_option maxHeartbeats 4000000 in
set_option maxRecDepth 100000 in
/-- X12_init -/
theorem c_X12_init (l : Launch) (dC : Nat → ClassId) (dI : Nat → Nat → Nat) (sz : Nat) (h : Nat) : Met l yX12_init (wc yX12_init cX12_init 1 none) ({ frames := 1, cells := 45, slots := 2765, locals := 40 } : Room) (pW (dC, dI) classes [(h, .inr (12, [.int 0, .int 0, .null, .int 0, .null, .null, .null, .null, .null, .null, .null, .null, .null, .int 0, .null, .null, .null, .long 0, .long 0, .int 0, .int 0, .int 0, .int 0, .int 0, .null, .null, .null, .null, .null, .null, .null, .null, .null, .int 0, .int 0, .int 0, .int 0, .int 0, .int 0, .null, .null, .int 0, .null, .null, .long 0, .long 0, .long 0, .long 0, .int 0, .null, .null, .null, .null, .null, .null, .null, .null, .int 0, .null, .null, .int 0, .int 0, .int 0, .null, .null, .int 0, .int 0, .int 0, .null, .null, .null, .null, .null, .null, .null]))] [] sz [.ref h]) (va_Qv (fun _ : ((Nat → Nat → Nat) × (Nat → Nat → ClassId)) => True) (fun u t => va_P (dC, dI) classes [(h, .inr (12, [.int 0, .int 0, .ref (u.1 12 2), .int 0, .ref (u.1 12 4), .ref (u.1 12 5), .ref (u.1 12 6), .ref (u.1 12 7), .ref (u.1 12 8), .ref (u.1 12 9), .ref (u.1 12 10), .ref (u.1 12 11), .ref (u.1 12 12), .int 0, .ref (u.1 12 14), .ref (u.1 12 15), .ref (u.1 12 16), .long 0, .long 0, .int 0, .int (-1), .int (-1), .int (-1), .int 0, .ref (u.1 12 24), .ref (u.1 12 25), .ref (u.1 12 26), .ref (u.1 12 27), .ref (u.1 12 28), .ref (u.1 12 29), .ref (u.1 12 30), .ref (u.1 12 31), .ref (u.1 12 32), .int 0, .int 0, .int 0, .int (-1), .int 0, .int 0, .ref (u.1 12 39), .ref (u.1 12 40), .int 0, .ref (u.1 12 42), .ref (u.1 12 43), .long 0, .long 0, .long 0, .long 0, .int 0, .ref (u.1 12 49), .ref (u.1 12 50), .ref (u.1 12 51), .ref (u.1 12 52), .ref (u.1 12 53), .ref (u.1 12 54), .ref (u.1 12 55), .ref (u.1 12 56), .int 0, .ref (u.1 12 58), .ref (u.1 12 59), .int 0, .int 0, .int 0, .ref (u.1 12 63), .ref (u.1 12 64), .int 0, .int 0, .int 0, .ref (u.1 12 68), .ref (u.1 12 69), .ref (u.1 12 70), .ref (u.1 12 71), .ref (u.1 12 72), .ref (u.1 12 73), .ref (u.1 12 74)])), ((u.1 12 2), .inl ((u.2 12 2), 10, .inl (fun _ => 0))), ((u.1 12 4), .inl ((u.2 12 4), 60, .inl (fun _ => 0))), ((u.1 12 5), .inl ((u.2 12 5), 60, .inl (fun _ => 0))), ((u.1 12 6), .inl ((u.2 12 6), 60, .inl (fun _ => 0))), ((u.1 12 7), .inl ((u.2 12 7), 60, .inl (fun _ => 0))), ((u.1 12 8), .inl ((u.2 12 8), 60, .inl (fun _ => 0))), ((u.1 12 9), .inl ((u.2 12 9), 60, .inl (fun _ => 0))), ((u.1 12 10), .inl ((u.2 12 10), 60, .inl (fun _ => 0))), ((u.1 12 11), .inl ((u.2 12 11), 60, .inl (fun _ => 0))), ((u.1 12 12), .inl ((u.2 12 12), 60, .inl (fun _ => 0))), ((u.1 12 14), .inl ((u.2 12 14), 30, .inl (fun _ => 0))), ((u.1 12 15), .inl ((u.2 12 15), 30, .inl (fun _ => 0))), ((u.1 12 16), .inl ((u.2 12 16), 30, .inl (fun _ => 0))), ((u.1 12 24), .inl ((u.2 12 24), 8, .inl (fun _ => 0))), ((u.1 12 25), .inl ((u.2 12 25), 8, .inl (fun _ => 0))), ((u.1 12 26), .inl ((u.2 12 26), 96, .inl (fun _ => 0))), ((u.1 12 27), .inl ((u.2 12 27), 96, .inl (fun _ => 0))), ((u.1 12 28), .inl ((u.2 12 28), 96, .inl (fun _ => 0))), ((u.1 12 29), .inl ((u.2 12 29), 96, .inl (fun _ => 0))), ((u.1 12 30), .inl ((u.2 12 30), 96, .inl (fun _ => 0))), ((u.1 12 31), .inl ((u.2 12 31), 768, .inl (fun _ => 0))), ((u.1 12 32), .inl ((u.2 12 32), 200, .inl (fun _ => 0))), ((u.1 12 39), .inl ((u.2 12 39), 8, .inl (fun _ => 0))), ((u.1 12 40), .inl ((u.2 12 40), 8, .inl (fun _ => 0))), ((u.1 12 42), .inl ((u.2 12 42), 3, .inr (.inl (fun _ => 0)))), ((u.1 12 43), .inl ((u.2 12 43), 3, .inr (.inl (fun _ => 0)))), ((u.1 12 49), .inl ((u.2 12 49), 80, .inl (fun _ => 0))), ((u.1 12 50), .inl ((u.2 12 50), 12, .inl (fun _ => 0))), ((u.1 12 51), .inl ((u.2 12 51), 10, .inl (fun _ => 0))), ((u.1 12 52), .inl ((u.2 12 52), 120, .inl (fun _ => 0))), ((u.1 12 53), .inl ((u.2 12 53), 10, .inl (fun _ => 0))), ((u.1 12 54), .inl ((u.2 12 54), 80, .inl (fun _ => 0))), ((u.1 12 55), .inl ((u.2 12 55), 10, .inl (fun _ => 0))), ((u.1 12 56), .inl ((u.2 12 56), 10, .inl (fun _ => 0))), ((u.1 12 58), .inl ((u.2 12 58), 8, .inl (fun _ => 0))), ((u.1 12 59), .inl ((u.2 12 59), 3, .inl (fun _ => 0))), ((u.1 12 63), .inl ((u.2 12 63), 8, .inl (fun _ => 0))), ((u.1 12 64), .inl ((u.2 12 64), 8, .inl (fun _ => 0))), ((u.1 12 68), .inl ((u.2 12 68), 40, .inl (fun _ => 0))), ((u.1 12 69), .inl ((u.2 12 69), 40, .inl (fun _ => 0))), ((u.1 12 70), .inl ((u.2 12 70), 40, .inr (.inl (fun _ => 0)))), ((u.1 12 71), .inl ((u.2 12 71), 40, .inl (fun _ => 0))), ((u.1 12 72), .inl ((u.2 12 72), 40, .inl (fun _ => 0))), ((u.1 12 73), .inl ((u.2 12 73), 40, .inl (fun _ => 0))), ((u.1 12 74), .inl ((u.2 12 74), 40, .inl (fun _ => 0)))] t.heap ∧ va_K (dC, dI) classes [((u.2 12 2), .int), ((u.2 12 4), .int), ((u.2 12 5), .int), ((u.2 12 6), .int), ((u.2 12 7), .int), ((u.2 12 8), .int), ((u.2 12 9), .int), ((u.2 12 10), .int), ((u.2 12 11), .int), ((u.2 12 12), .int), ((u.2 12 14), .int), ((u.2 12 15), .int), ((u.2 12 16), .int), ((u.2 12 24), .int), ((u.2 12 25), .int), ((u.2 12 26), .int), ((u.2 12 27), .int), ((u.2 12 28), .int), ((u.2 12 29), .int), ((u.2 12 30), .int), ((u.2 12 31), .int), ((u.2 12 32), .int), ((u.2 12 39), .boolean), ((u.2 12 40), .int), ((u.2 12 42), .long), ((u.2 12 43), .long), ((u.2 12 49), .int), ((u.2 12 50), .int), ((u.2 12 51), .int), ((u.2 12 52), .int), ((u.2 12 53), .int), ((u.2 12 54), .int), ((u.2 12 55), .int), ((u.2 12 56), .int), ((u.2 12 58), .int), ((u.2 12 59), .int), ((u.2 12 63), .int), ((u.2 12 64), .int), ((u.2 12 68), .int), ((u.2 12 69), .int), ((u.2 12 70), .long), ((u.2 12 71), .int), ((u.2 12 72), .int), ((u.2 12 73), .int), ((u.2 12 74), .int)] t ∧ va_D (va_A [(h, .inr (12, [.int 0, .int 0, .null, .int 0, .null, .null, .null, .null, .null, .null, .null, .null, .null, .int 0, .null, .null, .null, .long 0, .long 0, .int 0, .int 0, .int 0, .int 0, .int 0, .null, .null, .null, .null, .null, .null, .null, .null, .null, .int 0, .int 0, .int 0, .int 0, .int 0, .int 0, .null, .null, .int 0, .null, .null, .long 0, .long 0, .long 0, .long 0, .int 0, .null, .null, .null, .null, .null, .null, .null, .null, .int 0, .null, .null, .int 0, .int 0, .int 0, .null, .null, .int 0, .int 0, .int 0, .null, .null, .null, .null, .null, .null, .null]))] sz) [(h, .inr (12, [.int 0, .int 0, .ref (u.1 12 2), .int 0, .ref (u.1 12 4), .ref (u.1 12 5), .ref (u.1 12 6), .ref (u.1 12 7), .ref (u.1 12 8), .ref (u.1 12 9), .ref (u.1 12 10), .ref (u.1 12 11), .ref (u.1 12 12), .int 0, .ref (u.1 12 14), .ref (u.1 12 15), .ref (u.1 12 16), .long 0, .long 0, .int 0, .int (-1), .int (-1), .int (-1), .int 0, .ref (u.1 12 24), .ref (u.1 12 25), .ref (u.1 12 26), .ref (u.1 12 27), .ref (u.1 12 28), .ref (u.1 12 29), .ref (u.1 12 30), .ref (u.1 12 31), .ref (u.1 12 32), .int 0, .int 0, .int 0, .int (-1), .int 0, .int 0, .ref (u.1 12 39), .ref (u.1 12 40), .int 0, .ref (u.1 12 42), .ref (u.1 12 43), .long 0, .long 0, .long 0, .long 0, .int 0, .ref (u.1 12 49), .ref (u.1 12 50), .ref (u.1 12 51), .ref (u.1 12 52), .ref (u.1 12 53), .ref (u.1 12 54), .ref (u.1 12 55), .ref (u.1 12 56), .int 0, .ref (u.1 12 58), .ref (u.1 12 59), .int 0, .int 0, .int 0, .ref (u.1 12 63), .ref (u.1 12 64), .int 0, .int 0, .int 0, .ref (u.1 12 68), .ref (u.1 12 69), .ref (u.1 12 70), .ref (u.1 12 71), .ref (u.1 12 72), .ref (u.1 12 73), .ref (u.1 12 74)])), ((u.1 12 2), .inl ((u.2 12 2), 10, .inl (fun _ => 0))), ((u.1 12 4), .inl ((u.2 12 4), 60, .inl (fun _ => 0))), ((u.1 12 5), .inl ((u.2 12 5), 60, .inl (fun _ => 0))), ((u.1 12 6), .inl ((u.2 12 6), 60, .inl (fun _ => 0))), ((u.1 12 7), .inl ((u.2 12 7), 60, .inl (fun _ => 0))), ((u.1 12 8), .inl ((u.2 12 8), 60, .inl (fun _ => 0))), ((u.1 12 9), .inl ((u.2 12 9), 60, .inl (fun _ => 0))), ((u.1 12 10), .inl ((u.2 12 10), 60, .inl (fun _ => 0))), ((u.1 12 11), .inl ((u.2 12 11), 60, .inl (fun _ => 0))), ((u.1 12 12), .inl ((u.2 12 12), 60, .inl (fun _ => 0))), ((u.1 12 14), .inl ((u.2 12 14), 30, .inl (fun _ => 0))), ((u.1 12 15), .inl ((u.2 12 15), 30, .inl (fun _ => 0))), ((u.1 12 16), .inl ((u.2 12 16), 30, .inl (fun _ => 0))), ((u.1 12 24), .inl ((u.2 12 24), 8, .inl (fun _ => 0))), ((u.1 12 25), .inl ((u.2 12 25), 8, .inl (fun _ => 0))), ((u.1 12 26), .inl ((u.2 12 26), 96, .inl (fun _ => 0))), ((u.1 12 27), .inl ((u.2 12 27), 96, .inl (fun _ => 0))), ((u.1 12 28), .inl ((u.2 12 28), 96, .inl (fun _ => 0))), ((u.1 12 29), .inl ((u.2 12 29), 96, .inl (fun _ => 0))), ((u.1 12 30), .inl ((u.2 12 30), 96, .inl (fun _ => 0))), ((u.1 12 31), .inl ((u.2 12 31), 768, .inl (fun _ => 0))), ((u.1 12 32), .inl ((u.2 12 32), 200, .inl (fun _ => 0))), ((u.1 12 39), .inl ((u.2 12 39), 8, .inl (fun _ => 0))), ((u.1 12 40), .inl ((u.2 12 40), 8, .inl (fun _ => 0))), ((u.1 12 42), .inl ((u.2 12 42), 3, .inr (.inl (fun _ => 0)))), ((u.1 12 43), .inl ((u.2 12 43), 3, .inr (.inl (fun _ => 0)))), ((u.1 12 49), .inl ((u.2 12 49), 80, .inl (fun _ => 0))), ((u.1 12 50), .inl ((u.2 12 50), 12, .inl (fun _ => 0))), ((u.1 12 51), .inl ((u.2 12 51), 10, .inl (fun _ => 0))), ((u.1 12 52), .inl ((u.2 12 52), 120, .inl (fun _ => 0))), ((u.1 12 53), .inl ((u.2 12 53), 10, .inl (fun _ => 0))), ((u.1 12 54), .inl ((u.2 12 54), 80, .inl (fun _ => 0))), ((u.1 12 55), .inl ((u.2 12 55), 10, .inl (fun _ => 0))), ((u.1 12 56), .inl ((u.2 12 56), 10, .inl (fun _ => 0))), ((u.1 12 58), .inl ((u.2 12 58), 8, .inl (fun _ => 0))), ((u.1 12 59), .inl ((u.2 12 59), 3, .inl (fun _ => 0))), ((u.1 12 63), .inl ((u.2 12 63), 8, .inl (fun _ => 0))), ((u.1 12 64), .inl ((u.2 12 64), 8, .inl (fun _ => 0))), ((u.1 12 68), .inl ((u.2 12 68), 40, .inl (fun _ => 0))), ((u.1 12 69), .inl ((u.2 12 69), 40, .inl (fun _ => 0))), ((u.1 12 70), .inl ((u.2 12 70), 40, .inr (.inl (fun _ => 0)))), ((u.1 12 71), .inl ((u.2 12 71), 40, .inl (fun _ => 0))), ((u.1 12 72), .inl ((u.2 12 72), 40, .inl (fun _ => 0))), ((u.1 12 73), .inl ((u.2 12 73), 40, .inl (fun _ => 0))), ((u.1 12 74), .inl ((u.2 12 74), 40, .inl (fun _ => 0)))]) (va_A [(h, .inr (12, [.int 0, .int 0, .null, .int 0, .null, .null, .null, .null, .null, .null, .null, .null, .null, .int 0, .null, .null, .null, .long 0, .long 0, .int 0, .int 0, .int 0, .int 0, .int 0, .null, .null, .null, .null, .null, .null, .null, .null, .null, .int 0, .int 0, .int 0, .int 0, .int 0, .int 0, .null, .null, .int 0, .null, .null, .long 0, .long 0, .long 0, .long 0, .int 0, .null, .null, .null, .null, .null, .null, .null, .null, .int 0, .null, .null, .int 0, .int 0, .int 0, .null, .null, .int 0, .int 0, .int 0, .null, .null, .null, .null, .null, .null, .null]))] sz)) 45 2765 (va_A [(h, .inr (12, [.int 0, .int 0, .null, .int 0, .null, .null, .null, .null, .null, .null, .null, .null, .null, .int 0, .null, .null, .null, .long 0, .long 0, .int 0, .int 0, .int 0, .int 0, .int 0, .null, .null, .null, .null, .null, .null, .null, .null, .null, .int 0, .int 0, .int 0, .int 0, .int 0, .int 0, .null, .null, .int 0, .null, .null, .long 0, .long 0, .long 0, .long 0, .int 0, .null, .null, .null, .null, .null, .null, .null, .null, .int 0, .null, .null, .int 0, .int 0, .int 0, .null, .null, .int 0, .int 0, .int 0, .null, .null, .null, .null, .null, .null, .null]))] sz) := by
  refine Met.ofW (cc := cX12_init) (maxL := 1) (ret := none) (by decide) rfl ?_
  intro p e s m args below meth c s₁ B hml hv
  obtain ⟨rfl, hsz, hP, hK, hD0⟩ := hv
  have hx := B.exec
  have hb := B.bytes
  have hr := B.returns
  have ht := tb_tl (atoms_spec (ws := wc yX12_init cX12_init 1 none) B.pre)
  have hown : s.vm.findClass RX12 = some m.cls := findClass_of_methodNamed B.named
  have hlocks := B.notSynchronized
  have hin : meth.name = "<init>" := (name_of_methodNamed B.named B.method).1
  subst hsz
  have hD := hD0.self (sz := s.heap.size)
  generalize hAe : va_A [(h, .inr (12, [.int 0, .int 0, .null, .int 0, .null, .null, .null, .null, .null, .null, .null, .null, .null, .int 0, .null, .null, .null, .long 0, .long 0, .int 0, .int 0, .int 0, .int 0, .int 0, .null, .null, .null, .null, .null, .null, .null, .null, .null, .int 0, .int 0, .int 0, .int 0, .int 0, .int 0, .null, .null, .int 0, .null, .null, .long 0, .long 0, .long 0, .long 0, .int 0, .null, .null, .null, .null, .null, .null, .null, .null, .int 0, .null, .null, .int 0, .int 0, .int 0, .null, .null, .int 0, .int 0, .int 0, .null, .null, .null, .null, .null, .null, .null]))] s.heap.size = A at hD ⊢
  have hA : ∀ q : Nat, s.heap.size ≤ q → A q := fun q h => by rw [← hAe]; exact Or.inr h
  have hS : va_S A s.heap s.heap [] := va_S.rf
  have hP : va_P (dC, dI) classes [(h, .inr (12, [.int 0, .int 0, .null, .int 0, .null, .null, .null, .null, .null, .null, .null, .null, .null, .int 0, .null, .null, .null, .long 0, .long 0, .int 0, .int 0, .int 0, .int 0, .int 0, .null, .null, .null, .null, .null, .null, .null, .null, .null, .int 0, .int 0, .int 0, .int 0, .int 0, .int 0, .null, .null, .int 0, .null, .null, .long 0, .long 0, .long 0, .long 0, .int 0, .null, .null, .null, .null, .null, .null, .null, .null, .int 0, .null, .null, .int 0, .int 0, .int 0, .null, .null, .int 0, .int 0, .int 0, .null, .null, .null, .null, .null, .null, .null]))] s.heap := hP
  have hl := lv_entry [.ref h] (n := 1) (Nat.le_of_ble_eq_true rfl)
  rw [lg_entry_eq]
  generalize (lg_sl [.ref h] ++ List.replicate (1 - (lg_sl [.ref h]).length) Slot.unset).toArray = ls at hl ⊢
  have hl : lv_has ls 1 [(0, .ref h)] := hl
  refine lv_aload_n hx hb dX12_init_0 rfl (lv_at hl 0 rfl) ?_
  refine W.objInit hx hb hown (ht _ m_1138) (ht _ m_103) (ht _ m_104) rfl (by rw [hml]; exact hl.1) rfl dX12_init_1 (Nat.le_of_ble_eq_true rfl) (Nat.le_of_ble_eq_true rfl) ?_
  refine W.eq (g2 := F0 m 4 ls []) rfl ?_
  refine lv_aload_n hx hb dX12_init_4 rfl (lv_at hl 0 rfl) ?_
  refine lv_bipush (v := 10) hx hb dX12_init_5 (by decide) ?_
  refine va_newa (atype := .int) (ty := .int) (a0 := (10, .inl (fun _ => 0))) (N' := 10) hx hb (ht _ m_125) rfl hK hP hD hS hA (fun _ => rfl) (by decide) (by decide) (by decide) (Nat.le_of_ble_eq_true rfl) (Nat.le_of_ble_eq_true rfl) dX12_init_7 (fun q1 ca2 H hK hP hD hS => ?_)
  refine W.widen (k := 1) (n := 10) (by decide) (by decide) ?_
  refine va_putF (D := (dC, dI)) (ci := 12) (v := .ref q1) (ty := (.array .int)) (C := RX12) (T := TX12) (N := 75) hx hb ht inX12 tyX12 tyX12_ok nmX12 hown hK hP hD hS 0 rfl rfl 2 (by decide) (ht _ m_1141) (fun _ h9 => h9) rfl hin rfl (by decide +kernel) rfl rfl (Nat.le_of_ble_eq_true rfl) dX12_init_9 (fun H locs hP hD hS => ?_)
  refine lv_aload_n hx hb dX12_init_12 rfl (lv_at hl 0 rfl) ?_
  refine lv_bipush (v := 60) hx hb dX12_init_13 (by decide) ?_
  refine va_newa (atype := .int) (ty := .int) (a0 := (60, .inl (fun _ => 0))) (N' := 60) hx hb (ht _ m_125) rfl hK hP hD hS hA (fun _ => rfl) (by decide) (by decide) (by decide) (Nat.le_of_ble_eq_true rfl) (Nat.le_of_ble_eq_true rfl) dX12_init_15 (fun q3 ca4 H hK hP hD hS => ?_)
  refine W.widen (k := 2) (n := 70) (by decide) (by decide) ?_
  refine va_putF (D := (dC, dI)) (ci := 12) (v := .ref q3) (ty := (.array .int)) (C := RX12) (T := TX12) (N := 75) hx hb ht inX12 tyX12 tyX12_ok nmX12 hown hK hP hD hS 0 rfl rfl 4 (by decide) (ht _ m_1143) (fun _ h9 => h9) rfl hin rfl (by decide +kernel) rfl rfl (Nat.le_of_ble_eq_true rfl) dX12_init_17 (fun H locs hP hD hS => ?_)
  refine lv_aload_n hx hb dX12_init_20 rfl (lv_at hl 0 rfl) ?_
  refine lv_bipush (v := 60) hx hb dX12_init_21 (by decide) ?_
  refine va_newa (atype := .int) (ty := .int) (a0 := (60, .inl (fun _ => 0))) (N' := 60) hx hb (ht _ m_125) rfl hK hP hD hS hA (fun _ => rfl) (by decide) (by decide) (by decide) (Nat.le_of_ble_eq_true rfl) (Nat.le_of_ble_eq_true rfl) dX12_init_23 (fun q5 ca6 H hK hP hD hS => ?_)
  refine W.widen (k := 3) (n := 130) (by decide) (by decide) ?_
  refine va_putF (D := (dC, dI)) (ci := 12) (v := .ref q5) (ty := (.array .int)) (C := RX12) (T := TX12) (N := 75) hx hb ht inX12 tyX12 tyX12_ok nmX12 hown hK hP hD hS 0 rfl rfl 5 (by decide) (ht _ m_1144) (fun _ h9 => h9) rfl hin rfl (by decide +kernel) rfl rfl (Nat.le_of_ble_eq_true rfl) dX12_init_25 (fun H locs hP hD hS => ?_)
  refine lv_aload_n hx hb dX12_init_28 rfl (lv_at hl 0 rfl) ?_
  refine lv_bipush (v := 60) hx hb dX12_init_29 (by decide) ?_
  refine va_newa (atype := .int) (ty := .int) (a0 := (60, .inl (fun _ => 0))) (N' := 60) hx hb (ht _ m_125) rfl hK hP hD hS hA (fun _ => rfl) (by decide) (by decide) (by decide) (Nat.le_of_ble_eq_true rfl) (Nat.le_of_ble_eq_true rfl) dX12_init_31 (fun q7 ca8 H hK hP hD hS => ?_)
  refine W.widen (k := 4) (n := 190) (by decide) (by decide) ?_
  refine va_putF (D := (dC, dI)) (ci := 12) (v := .ref q7) (ty := (.array .int)) (C := RX12) (T := TX12) (N := 75) hx hb ht inX12 tyX12 tyX12_ok nmX12 hown hK hP hD hS 0 rfl rfl 6 (by decide) (ht _ m_1145) (fun _ h9 => h9) rfl hin rfl (by decide +kernel) rfl rfl (Nat.le_of_ble_eq_true rfl) dX12_init_33 (fun H locs hP hD hS => ?_)
  have hK : va_K (dC, dI) classes [(ca2, .int), (ca4, .int), (ca6, .int), (ca8, .int)] s := hK
  obtain ⟨ws9, hP, hD, he9⟩ : ∃ ws9 : va_W, va_P (dC, dI) classes ws9 H ∧ va_D A ws9 ∧ ws9 = [(h, .inr (12, [.int 0, .int 0, .ref q1, .int 0, .ref q3, .ref q5, .ref q7, .null, .null, .null, .null, .null, .null, .int 0, .null, .null, .null, .long 0, .long 0, .int 0, .int 0, .int 0, .int 0, .int 0, .null, .null, .null, .null, .null, .null, .null, .null, .null, .int 0, .int 0, .int 0, .int 0, .int 0, .int 0, .null, .null, .int 0, .null, .null, .long 0, .long 0, .long 0, .long 0, .int 0, .null, .null, .null, .null, .null, .null, .null, .null, .int 0, .null, .null, .int 0, .int 0, .int 0, .null, .null, .int 0, .int 0, .int 0, .null, .null, .null, .null, .null, .null, .null])), (q1, .inl (ca2, 10, .inl (fun _ => 0))), (q3, .inl (ca4, 60, .inl (fun _ => 0))), (q5, .inl (ca6, 60, .inl (fun _ => 0))), (q7, .inl (ca8, 60, .inl (fun _ => 0)))] := ⟨_, hP, hD, rfl⟩
  subst he9
  refine lv_aload_n hx hb dX12_init_36 rfl (lv_at hl 0 rfl) ?_
  refine lv_bipush (v := 60) hx hb dX12_init_37 (by decide) ?_
  refine va_newa (atype := .int) (ty := .int) (a0 := (60, .inl (fun _ => 0))) (N' := 60) hx hb (ht _ m_125) rfl hK hP hD hS hA (fun _ => rfl) (by decide) (by decide) (by decide) (Nat.le_of_ble_eq_true rfl) (Nat.le_of_ble_eq_true rfl) dX12_init_39 (fun q9 ca10 H hK hP hD hS => ?_)
  refine W.widen (k := 5) (n := 250) (by decide) (by decide) ?_
  refine va_putF (D := (dC, dI)) (ci := 12) (v := .ref q9) (ty := (.array .int)) (C := RX12) (T := TX12) (N := 75) hx hb ht inX12 tyX12 tyX12_ok nmX12 hown hK hP hD hS 0 rfl rfl 7 (by decide) (ht _ m_1146) (fun _ h9 => h9) rfl hin rfl (by decide +kernel) rfl rfl (Nat.le_of_ble_eq_true rfl) dX12_init_41 (fun H locs hP hD hS => ?_)
  refine lv_aload_n hx hb dX12_init_44 rfl (lv_at hl 0 rfl) ?_
  refine lv_bipush (v := 60) hx hb dX12_init_45 (by decide) ?_
  refine va_newa (atype := .int) (ty := .int) (a0 := (60, .inl (fun _ => 0))) (N' := 60) hx hb (ht _ m_125) rfl hK hP hD hS hA (fun _ => rfl) (by decide) (by decide) (by decide) (Nat.le_of_ble_eq_true rfl) (Nat.le_of_ble_eq_true rfl) dX12_init_47 (fun q11 ca12 H hK hP hD hS => ?_)
  refine W.widen (k := 6) (n := 310) (by decide) (by decide) ?_
  refine va_putF (D := (dC, dI)) (ci := 12) (v := .ref q11) (ty := (.array .int)) (C := RX12) (T := TX12) (N := 75) hx hb ht inX12 tyX12 tyX12_ok nmX12 hown hK hP hD hS 0 rfl rfl 8 (by decide) (ht _ m_1147) (fun _ h9 => h9) rfl hin rfl (by decide +kernel) rfl rfl (Nat.le_of_ble_eq_true rfl) dX12_init_49 (fun H locs hP hD hS => ?_)
  refine lv_aload_n hx hb dX12_init_52 rfl (lv_at hl 0 rfl) ?_
  refine lv_bipush (v := 60) hx hb dX12_init_53 (by decide) ?_
  refine va_newa (atype := .int) (ty := .int) (a0 := (60, .inl (fun _ => 0))) (N' := 60) hx hb (ht _ m_125) rfl hK hP hD hS hA (fun _ => rfl) (by decide) (by decide) (by decide) (Nat.le_of_ble_eq_true rfl) (Nat.le_of_ble_eq_true rfl) dX12_init_55 (fun q13 ca14 H hK hP hD hS => ?_)
  refine W.widen (k := 7) (n := 370) (by decide) (by decide) ?_
  refine va_putF (D := (dC, dI)) (ci := 12) (v := .ref q13) (ty := (.array .int)) (C := RX12) (T := TX12) (N := 75) hx hb ht inX12 tyX12 tyX12_ok nmX12 hown hK hP hD hS 0 rfl rfl 9 (by decide) (ht _ m_1148) (fun _ h9 => h9) rfl hin rfl (by decide +kernel) rfl rfl (Nat.le_of_ble_eq_true rfl) dX12_init_57 (fun H locs hP hD hS => ?_)
  refine lv_aload_n hx hb dX12_init_60 rfl (lv_at hl 0 rfl) ?_
  refine lv_bipush (v := 60) hx hb dX12_init_61 (by decide) ?_
  refine va_newa (atype := .int) (ty := .int) (a0 := (60, .inl (fun _ => 0))) (N' := 60) hx hb (ht _ m_125) rfl hK hP hD hS hA (fun _ => rfl) (by decide) (by decide) (by decide) (Nat.le_of_ble_eq_true rfl) (Nat.le_of_ble_eq_true rfl) dX12_init_63 (fun q15 ca16 H hK hP hD hS => ?_)
  refine W.widen (k := 8) (n := 430) (by decide) (by decide) ?_
  refine va_putF (D := (dC, dI)) (ci := 12) (v := .ref q15) (ty := (.array .int)) (C := RX12) (T := TX12) (N := 75) hx hb ht inX12 tyX12 tyX12_ok nmX12 hown hK hP hD hS 0 rfl rfl 10 (by decide) (ht _ m_1149) (fun _ h9 => h9) rfl hin rfl (by decide +kernel) rfl rfl (Nat.le_of_ble_eq_true rfl) dX12_init_65 (fun H locs hP hD hS => ?_)
  have hK : va_K (dC, dI) classes [(ca2, .int), (ca4, .int), (ca6, .int), (ca8, .int), (ca10, .int), (ca12, .int), (ca14, .int), (ca16, .int)] s := hK
  obtain ⟨ws9, hP, hD, he9⟩ : ∃ ws9 : va_W, va_P (dC, dI) classes ws9 H ∧ va_D A ws9 ∧ ws9 = [(h, .inr (12, [.int 0, .int 0, .ref q1, .int 0, .ref q3, .ref q5, .ref q7, .ref q9, .ref q11, .ref q13, .ref q15, .null, .null, .int 0, .null, .null, .null, .long 0, .long 0, .int 0, .int 0, .int 0, .int 0, .int 0, .null, .null, .null, .null, .null, .null, .null, .null, .null, .int 0, .int 0, .int 0, .int 0, .int 0, .int 0, .null, .null, .int 0, .null, .null, .long 0, .long 0, .long 0, .long 0, .int 0, .null, .null, .null, .null, .null, .null, .null, .null, .int 0, .null, .null, .int 0, .int 0, .int 0, .null, .null, .int 0, .int 0, .int 0, .null, .null, .null, .null, .null, .null, .null])), (q1, .inl (ca2, 10, .inl (fun _ => 0))), (q3, .inl (ca4, 60, .inl (fun _ => 0))), (q5, .inl (ca6, 60, .inl (fun _ => 0))), (q7, .inl (ca8, 60, .inl (fun _ => 0))), (q9, .inl (ca10, 60, .inl (fun _ => 0))), (q11, .inl (ca12, 60, .inl (fun _ => 0))), (q13, .inl (ca14, 60, .inl (fun _ => 0))), (q15, .inl (ca16, 60, .inl (fun _ => 0)))] := ⟨_, hP, hD, rfl⟩
  subst he9
  refine lv_aload_n hx hb dX12_init_68 rfl (lv_at hl 0 rfl) ?_
  refine lv_bipush (v := 60) hx hb dX12_init_69 (by decide) ?_
  refine va_newa (atype := .int) (ty := .int) (a0 := (60, .inl (fun _ => 0))) (N' := 60) hx hb (ht _ m_125) rfl hK hP hD hS hA (fun _ => rfl) (by decide) (by decide) (by decide) (Nat.le_of_ble_eq_true rfl) (Nat.le_of_ble_eq_true rfl) dX12_init_71 (fun q17 ca18 H hK hP hD hS => ?_)
  refine W.widen (k := 9) (n := 490) (by decide) (by decide) ?_
  refine va_putF (D := (dC, dI)) (ci := 12) (v := .ref q17) (ty := (.array .int)) (C := RX12) (T := TX12) (N := 75) hx hb ht inX12 tyX12 tyX12_ok nmX12 hown hK hP hD hS 0 rfl rfl 11 (by decide) (ht _ m_1150) (fun _ h9 => h9) rfl hin rfl (by decide +kernel) rfl rfl (Nat.le_of_ble_eq_true rfl) dX12_init_73 (fun H locs hP hD hS => ?_)
  refine lv_aload_n hx hb dX12_init_76 rfl (lv_at hl 0 rfl) ?_
  refine lv_bipush (v := 60) hx hb dX12_init_77 (by decide) ?_
  refine va_newa (atype := .int) (ty := .int) (a0 := (60, .inl (fun _ => 0))) (N' := 60) hx hb (ht _ m_125) rfl hK hP hD hS hA (fun _ => rfl) (by decide) (by decide) (by decide) (Nat.le_of_ble_eq_true rfl) (Nat.le_of_ble_eq_true rfl) dX12_init_79 (fun q19 ca20 H hK hP hD hS => ?_)
  refine W.widen (k := 10) (n := 550) (by decide) (by decide) ?_
  refine va_putF (D := (dC, dI)) (ci := 12) (v := .ref q19) (ty := (.array .int)) (C := RX12) (T := TX12) (N := 75) hx hb ht inX12 tyX12 tyX12_ok nmX12 hown hK hP hD hS 0 rfl rfl 12 (by decide) (ht _ m_1151) (fun _ h9 => h9) rfl hin rfl (by decide +kernel) rfl rfl (Nat.le_of_ble_eq_true rfl) dX12_init_81 (fun H locs hP hD hS => ?_)
  refine lv_aload_n hx hb dX12_init_84 rfl (lv_at hl 0 rfl) ?_
  refine lv_bipush (v := 30) hx hb dX12_init_85 (by decide) ?_
  refine va_newa (atype := .int) (ty := .int) (a0 := (30, .inl (fun _ => 0))) (N' := 30) hx hb (ht _ m_125) rfl hK hP hD hS hA (fun _ => rfl) (by decide) (by decide) (by decide) (Nat.le_of_ble_eq_true rfl) (Nat.le_of_ble_eq_true rfl) dX12_init_87 (fun q21 ca22 H hK hP hD hS => ?_)
  refine W.widen (k := 11) (n := 580) (by decide) (by decide) ?_
  refine va_putF (D := (dC, dI)) (ci := 12) (v := .ref q21) (ty := (.array .int)) (C := RX12) (T := TX12) (N := 75) hx hb ht inX12 tyX12 tyX12_ok nmX12 hown hK hP hD hS 0 rfl rfl 14 (by decide) (ht _ m_1153) (fun _ h9 => h9) rfl hin rfl (by decide +kernel) rfl rfl (Nat.le_of_ble_eq_true rfl) dX12_init_89 (fun H locs hP hD hS => ?_)
  refine lv_aload_n hx hb dX12_init_92 rfl (lv_at hl 0 rfl) ?_
  refine lv_bipush (v := 30) hx hb dX12_init_93 (by decide) ?_
  refine va_newa (atype := .int) (ty := .int) (a0 := (30, .inl (fun _ => 0))) (N' := 30) hx hb (ht _ m_125) rfl hK hP hD hS hA (fun _ => rfl) (by decide) (by decide) (by decide) (Nat.le_of_ble_eq_true rfl) (Nat.le_of_ble_eq_true rfl) dX12_init_95 (fun q23 ca24 H hK hP hD hS => ?_)
  refine W.widen (k := 12) (n := 610) (by decide) (by decide) ?_
  refine va_putF (D := (dC, dI)) (ci := 12) (v := .ref q23) (ty := (.array .int)) (C := RX12) (T := TX12) (N := 75) hx hb ht inX12 tyX12 tyX12_ok nmX12 hown hK hP hD hS 0 rfl rfl 15 (by decide) (ht _ m_1154) (fun _ h9 => h9) rfl hin rfl (by decide +kernel) rfl rfl (Nat.le_of_ble_eq_true rfl) dX12_init_97 (fun H locs hP hD hS => ?_)
  have hK : va_K (dC, dI) classes [(ca2, .int), (ca4, .int), (ca6, .int), (ca8, .int), (ca10, .int), (ca12, .int), (ca14, .int), (ca16, .int), (ca18, .int), (ca20, .int), (ca22, .int), (ca24, .int)] s := hK
  obtain ⟨ws9, hP, hD, he9⟩ : ∃ ws9 : va_W, va_P (dC, dI) classes ws9 H ∧ va_D A ws9 ∧ ws9 = [(h, .inr (12, [.int 0, .int 0, .ref q1, .int 0, .ref q3, .ref q5, .ref q7, .ref q9, .ref q11, .ref q13, .ref q15, .ref q17, .ref q19, .int 0, .ref q21, .ref q23, .null, .long 0, .long 0, .int 0, .int 0, .int 0, .int 0, .int 0, .null, .null, .null, .null, .null, .null, .null, .null, .null, .int 0, .int 0, .int 0, .int 0, .int 0, .int 0, .null, .null, .int 0, .null, .null, .long 0, .long 0, .long 0, .long 0, .int 0, .null, .null, .null, .null, .null, .null, .null, .null, .int 0, .null, .null, .int 0, .int 0, .int 0, .null, .null, .int 0, .int 0, .int 0, .null, .null, .null, .null, .null, .null, .null])), (q1, .inl (ca2, 10, .inl (fun _ => 0))), (q3, .inl (ca4, 60, .inl (fun _ => 0))), (q5, .inl (ca6, 60, .inl (fun _ => 0))), (q7, .inl (ca8, 60, .inl (fun _ => 0))), (q9, .inl (ca10, 60, .inl (fun _ => 0))), (q11, .inl (ca12, 60, .inl (fun _ => 0))), (q13, .inl (ca14, 60, .inl (fun _ => 0))), (q15, .inl (ca16, 60, .inl (fun _ => 0))), (q17, .inl (ca18, 60, .inl (fun _ => 0))), (q19, .inl (ca20, 60, .inl (fun _ => 0))), (q21, .inl (ca22, 30, .inl (fun _ => 0))), (q23, .inl (ca24, 30, .inl (fun _ => 0)))] := ⟨_, hP, hD, rfl⟩
  subst he9
  refine lv_aload_n hx hb dX12_init_100 rfl (lv_at hl 0 rfl) ?_
  refine lv_bipush (v := 30) hx hb dX12_init_101 (by decide) ?_
  refine va_newa (atype := .int) (ty := .int) (a0 := (30, .inl (fun _ => 0))) (N' := 30) hx hb (ht _ m_125) rfl hK hP hD hS hA (fun _ => rfl) (by decide) (by decide) (by decide) (Nat.le_of_ble_eq_true rfl) (Nat.le_of_ble_eq_true rfl) dX12_init_103 (fun q25 ca26 H hK hP hD hS => ?_)
  refine W.widen (k := 13) (n := 640) (by decide) (by decide) ?_
  refine va_putF (D := (dC, dI)) (ci := 12) (v := .ref q25) (ty := (.array .int)) (C := RX12) (T := TX12) (N := 75) hx hb ht inX12 tyX12 tyX12_ok nmX12 hown hK hP hD hS 0 rfl rfl 16 (by decide) (ht _ m_1155) (fun _ h9 => h9) rfl hin rfl (by decide +kernel) rfl rfl (Nat.le_of_ble_eq_true rfl) dX12_init_105 (fun H locs hP hD hS => ?_)
  refine lv_aload_n hx hb dX12_init_108 rfl (lv_at hl 0 rfl) ?_
  refine lv_iconst (v := (-1)) hx hb dX12_init_109 (by decide) ?_
  refine va_put (D := (dC, dI)) (ci := 12) (v := .int (-1)) (ty := (.int)) (C := RX12) (T := TX12) (N := 75) hx hb ht inX12 tyX12 tyX12_ok nmX12 hown hK hP hD hS 0 rfl rfl 20 (by decide) (ht _ m_1159) (fun _ h9 => h9) rfl (by decide +kernel) rfl rfl (Nat.le_of_ble_eq_true rfl) dX12_init_110 (fun H locs hP hD hS => ?_)
  refine lv_aload_n hx hb dX12_init_113 rfl (lv_at hl 0 rfl) ?_
  refine lv_iconst (v := (-1)) hx hb dX12_init_114 (by decide) ?_
  refine va_put (D := (dC, dI)) (ci := 12) (v := .int (-1)) (ty := (.int)) (C := RX12) (T := TX12) (N := 75) hx hb ht inX12 tyX12 tyX12_ok nmX12 hown hK hP hD hS 0 rfl rfl 21 (by decide) (ht _ m_1160) (fun _ h9 => h9) rfl (by decide +kernel) rfl rfl (Nat.le_of_ble_eq_true rfl) dX12_init_115 (fun H locs hP hD hS => ?_)
  refine lv_aload_n hx hb dX12_init_118 rfl (lv_at hl 0 rfl) ?_
  refine lv_iconst (v := (-1)) hx hb dX12_init_119 (by decide) ?_
  refine va_put (D := (dC, dI)) (ci := 12) (v := .int (-1)) (ty := (.int)) (C := RX12) (T := TX12) (N := 75) hx hb ht inX12 tyX12 tyX12_ok nmX12 hown hK hP hD hS 0 rfl rfl 22 (by decide) (ht _ m_1161) (fun _ h9 => h9) rfl (by decide +kernel) rfl rfl (Nat.le_of_ble_eq_true rfl) dX12_init_120 (fun H locs hP hD hS => ?_)
  have hK : va_K (dC, dI) classes [(ca2, .int), (ca4, .int), (ca6, .int), (ca8, .int), (ca10, .int), (ca12, .int), (ca14, .int), (ca16, .int), (ca18, .int), (ca20, .int), (ca22, .int), (ca24, .int), (ca26, .int)] s := hK
  obtain ⟨ws9, hP, hD, he9⟩ : ∃ ws9 : va_W, va_P (dC, dI) classes ws9 H ∧ va_D A ws9 ∧ ws9 = [(h, .inr (12, [.int 0, .int 0, .ref q1, .int 0, .ref q3, .ref q5, .ref q7, .ref q9, .ref q11, .ref q13, .ref q15, .ref q17, .ref q19, .int 0, .ref q21, .ref q23, .ref q25, .long 0, .long 0, .int 0, .int (-1), .int (-1), .int (-1), .int 0, .null, .null, .null, .null, .null, .null, .null, .null, .null, .int 0, .int 0, .int 0, .int 0, .int 0, .int 0, .null, .null, .int 0, .null, .null, .long 0, .long 0, .long 0, .long 0, .int 0, .null, .null, .null, .null, .null, .null, .null, .null, .int 0, .null, .null, .int 0, .int 0, .int 0, .null, .null, .int 0, .int 0, .int 0, .null, .null, .null, .null, .null, .null, .null])), (q1, .inl (ca2, 10, .inl (fun _ => 0))), (q3, .inl (ca4, 60, .inl (fun _ => 0))), (q5, .inl (ca6, 60, .inl (fun _ => 0))), (q7, .inl (ca8, 60, .inl (fun _ => 0))), (q9, .inl (ca10, 60, .inl (fun _ => 0))), (q11, .inl (ca12, 60, .inl (fun _ => 0))), (q13, .inl (ca14, 60, .inl (fun _ => 0))), (q15, .inl (ca16, 60, .inl (fun _ => 0))), (q17, .inl (ca18, 60, .inl (fun _ => 0))), (q19, .inl (ca20, 60, .inl (fun _ => 0))), (q21, .inl (ca22, 30, .inl (fun _ => 0))), (q23, .inl (ca24, 30, .inl (fun _ => 0))), (q25, .inl (ca26, 30, .inl (fun _ => 0)))] := ⟨_, hP, hD, rfl⟩
  subst he9
  refine lv_aload_n hx hb dX12_init_123 rfl (lv_at hl 0 rfl) ?_
  refine lv_bipush (v := 8) hx hb dX12_init_124 (by decide) ?_
  refine va_newa (atype := .int) (ty := .int) (a0 := (8, .inl (fun _ => 0))) (N' := 8) hx hb (ht _ m_125) rfl hK hP hD hS hA (fun _ => rfl) (by decide) (by decide) (by decide) (Nat.le_of_ble_eq_true rfl) (Nat.le_of_ble_eq_true rfl) dX12_init_126 (fun q27 ca28 H hK hP hD hS => ?_)
  refine W.widen (k := 14) (n := 648) (by decide) (by decide) ?_
  refine va_putF (D := (dC, dI)) (ci := 12) (v := .ref q27) (ty := (.array .int)) (C := RX12) (T := TX12) (N := 75) hx hb ht inX12 tyX12 tyX12_ok nmX12 hown hK hP hD hS 0 rfl rfl 24 (by decide) (ht _ m_1163) (fun _ h9 => h9) rfl hin rfl (by decide +kernel) rfl rfl (Nat.le_of_ble_eq_true rfl) dX12_init_128 (fun H locs hP hD hS => ?_)
  refine lv_aload_n hx hb dX12_init_131 rfl (lv_at hl 0 rfl) ?_
  refine lv_bipush (v := 8) hx hb dX12_init_132 (by decide) ?_
  refine va_newa (atype := .int) (ty := .int) (a0 := (8, .inl (fun _ => 0))) (N' := 8) hx hb (ht _ m_125) rfl hK hP hD hS hA (fun _ => rfl) (by decide) (by decide) (by decide) (Nat.le_of_ble_eq_true rfl) (Nat.le_of_ble_eq_true rfl) dX12_init_134 (fun q29 ca30 H hK hP hD hS => ?_)
  refine W.widen (k := 15) (n := 656) (by decide) (by decide) ?_
  refine va_putF (D := (dC, dI)) (ci := 12) (v := .ref q29) (ty := (.array .int)) (C := RX12) (T := TX12) (N := 75) hx hb ht inX12 tyX12 tyX12_ok nmX12 hown hK hP hD hS 0 rfl rfl 25 (by decide) (ht _ m_1164) (fun _ h9 => h9) rfl hin rfl (by decide +kernel) rfl rfl (Nat.le_of_ble_eq_true rfl) dX12_init_136 (fun H locs hP hD hS => ?_)
  refine lv_aload_n hx hb dX12_init_139 rfl (lv_at hl 0 rfl) ?_
  refine lv_bipush (v := 96) hx hb dX12_init_140 (by decide) ?_
  refine va_newa (atype := .int) (ty := .int) (a0 := (96, .inl (fun _ => 0))) (N' := 96) hx hb (ht _ m_125) rfl hK hP hD hS hA (fun _ => rfl) (by decide) (by decide) (by decide) (Nat.le_of_ble_eq_true rfl) (Nat.le_of_ble_eq_true rfl) dX12_init_142 (fun q31 ca32 H hK hP hD hS => ?_)
  refine W.widen (k := 16) (n := 752) (by decide) (by decide) ?_
  refine va_putF (D := (dC, dI)) (ci := 12) (v := .ref q31) (ty := (.array .int)) (C := RX12) (T := TX12) (N := 75) hx hb ht inX12 tyX12 tyX12_ok nmX12 hown hK hP hD hS 0 rfl rfl 26 (by decide) (ht _ m_1165) (fun _ h9 => h9) rfl hin rfl (by decide +kernel) rfl rfl (Nat.le_of_ble_eq_true rfl) dX12_init_144 (fun H locs hP hD hS => ?_)
  refine lv_aload_n hx hb dX12_init_147 rfl (lv_at hl 0 rfl) ?_
  refine lv_bipush (v := 96) hx hb dX12_init_148 (by decide) ?_
  refine va_newa (atype := .int) (ty := .int) (a0 := (96, .inl (fun _ => 0))) (N' := 96) hx hb (ht _ m_125) rfl hK hP hD hS hA (fun _ => rfl) (by decide) (by decide) (by decide) (Nat.le_of_ble_eq_true rfl) (Nat.le_of_ble_eq_true rfl) dX12_init_150 (fun q33 ca34 H hK hP hD hS => ?_)
  refine W.widen (k := 17) (n := 848) (by decide) (by decide) ?_
  refine va_putF (D := (dC, dI)) (ci := 12) (v := .ref q33) (ty := (.array .int)) (C := RX12) (T := TX12) (N := 75) hx hb ht inX12 tyX12 tyX12_ok nmX12 hown hK hP hD hS 0 rfl rfl 27 (by decide) (ht _ m_1166) (fun _ h9 => h9) rfl hin rfl (by decide +kernel) rfl rfl (Nat.le_of_ble_eq_true rfl) dX12_init_152 (fun H locs hP hD hS => ?_)
  have hK : va_K (dC, dI) classes [(ca2, .int), (ca4, .int), (ca6, .int), (ca8, .int), (ca10, .int), (ca12, .int), (ca14, .int), (ca16, .int), (ca18, .int), (ca20, .int), (ca22, .int), (ca24, .int), (ca26, .int), (ca28, .int), (ca30, .int), (ca32, .int), (ca34, .int)] s := hK
  obtain ⟨ws9, hP, hD, he9⟩ : ∃ ws9 : va_W, va_P (dC, dI) classes ws9 H ∧ va_D A ws9 ∧ ws9 = [(h, .inr (12, [.int 0, .int 0, .ref q1, .int 0, .ref q3, .ref q5, .ref q7, .ref q9, .ref q11, .ref q13, .ref q15, .ref q17, .ref q19, .int 0, .ref q21, .ref q23, .ref q25, .long 0, .long 0, .int 0, .int (-1), .int (-1), .int (-1), .int 0, .ref q27, .ref q29, .ref q31, .ref q33, .null, .null, .null, .null, .null, .int 0, .int 0, .int 0, .int 0, .int 0, .int 0, .null, .null, .int 0, .null, .null, .long 0, .long 0, .long 0, .long 0, .int 0, .null, .null, .null, .null, .null, .null, .null, .null, .int 0, .null, .null, .int 0, .int 0, .int 0, .null, .null, .int 0, .int 0, .int 0, .null, .null, .null, .null, .null, .null, .null])), (q1, .inl (ca2, 10, .inl (fun _ => 0))), (q3, .inl (ca4, 60, .inl (fun _ => 0))), (q5, .inl (ca6, 60, .inl (fun _ => 0))), (q7, .inl (ca8, 60, .inl (fun _ => 0))), (q9, .inl (ca10, 60, .inl (fun _ => 0))), (q11, .inl (ca12, 60, .inl (fun _ => 0))), (q13, .inl (ca14, 60, .inl (fun _ => 0))), (q15, .inl (ca16, 60, .inl (fun _ => 0))), (q17, .inl (ca18, 60, .inl (fun _ => 0))), (q19, .inl (ca20, 60, .inl (fun _ => 0))), (q21, .inl (ca22, 30, .inl (fun _ => 0))), (q23, .inl (ca24, 30, .inl (fun _ => 0))), (q25, .inl (ca26, 30, .inl (fun _ => 0))), (q27, .inl (ca28, 8, .inl (fun _ => 0))), (q29, .inl (ca30, 8, .inl (fun _ => 0))), (q31, .inl (ca32, 96, .inl (fun _ => 0))), (q33, .inl (ca34, 96, .inl (fun _ => 0)))] := ⟨_, hP, hD, rfl⟩
  subst he9
  refine lv_aload_n hx hb dX12_init_155 rfl (lv_at hl 0 rfl) ?_
  refine lv_bipush (v := 96) hx hb dX12_init_156 (by decide) ?_
  refine va_newa (atype := .int) (ty := .int) (a0 := (96, .inl (fun _ => 0))) (N' := 96) hx hb (ht _ m_125) rfl hK hP hD hS hA (fun _ => rfl) (by decide) (by decide) (by decide) (Nat.le_of_ble_eq_true rfl) (Nat.le_of_ble_eq_true rfl) dX12_init_158 (fun q35 ca36 H hK hP hD hS => ?_)
  refine W.widen (k := 18) (n := 944) (by decide) (by decide) ?_
  refine va_putF (D := (dC, dI)) (ci := 12) (v := .ref q35) (ty := (.array .int)) (C := RX12) (T := TX12) (N := 75) hx hb ht inX12 tyX12 tyX12_ok nmX12 hown hK hP hD hS 0 rfl rfl 28 (by decide) (ht _ m_1167) (fun _ h9 => h9) rfl hin rfl (by decide +kernel) rfl rfl (Nat.le_of_ble_eq_true rfl) dX12_init_160 (fun H locs hP hD hS => ?_)
  refine lv_aload_n hx hb dX12_init_163 rfl (lv_at hl 0 rfl) ?_
  refine lv_bipush (v := 96) hx hb dX12_init_164 (by decide) ?_
  refine va_newa (atype := .int) (ty := .int) (a0 := (96, .inl (fun _ => 0))) (N' := 96) hx hb (ht _ m_125) rfl hK hP hD hS hA (fun _ => rfl) (by decide) (by decide) (by decide) (Nat.le_of_ble_eq_true rfl) (Nat.le_of_ble_eq_true rfl) dX12_init_166 (fun q37 ca38 H hK hP hD hS => ?_)
  refine W.widen (k := 19) (n := 1040) (by decide) (by decide) ?_
  refine va_putF (D := (dC, dI)) (ci := 12) (v := .ref q37) (ty := (.array .int)) (C := RX12) (T := TX12) (N := 75) hx hb ht inX12 tyX12 tyX12_ok nmX12 hown hK hP hD hS 0 rfl rfl 29 (by decide) (ht _ m_1168) (fun _ h9 => h9) rfl hin rfl (by decide +kernel) rfl rfl (Nat.le_of_ble_eq_true rfl) dX12_init_168 (fun H locs hP hD hS => ?_)
  refine lv_aload_n hx hb dX12_init_171 rfl (lv_at hl 0 rfl) ?_
  refine lv_bipush (v := 96) hx hb dX12_init_172 (by decide) ?_
  refine va_newa (atype := .int) (ty := .int) (a0 := (96, .inl (fun _ => 0))) (N' := 96) hx hb (ht _ m_125) rfl hK hP hD hS hA (fun _ => rfl) (by decide) (by decide) (by decide) (Nat.le_of_ble_eq_true rfl) (Nat.le_of_ble_eq_true rfl) dX12_init_174 (fun q39 ca40 H hK hP hD hS => ?_)
  refine W.widen (k := 20) (n := 1136) (by decide) (by decide) ?_
  refine va_putF (D := (dC, dI)) (ci := 12) (v := .ref q39) (ty := (.array .int)) (C := RX12) (T := TX12) (N := 75) hx hb ht inX12 tyX12 tyX12_ok nmX12 hown hK hP hD hS 0 rfl rfl 30 (by decide) (ht _ m_1169) (fun _ h9 => h9) rfl hin rfl (by decide +kernel) rfl rfl (Nat.le_of_ble_eq_true rfl) dX12_init_176 (fun H locs hP hD hS => ?_)
  refine lv_aload_n hx hb dX12_init_179 rfl (lv_at hl 0 rfl) ?_
  refine lv_sipush (v := 768) hx hb dX12_init_180 (by decide) ?_
  refine va_newa (atype := .int) (ty := .int) (a0 := (768, .inl (fun _ => 0))) (N' := 768) hx hb (ht _ m_125) rfl hK hP hD hS hA (fun _ => rfl) (by decide) (by decide) (by decide) (Nat.le_of_ble_eq_true rfl) (Nat.le_of_ble_eq_true rfl) dX12_init_183 (fun q41 ca42 H hK hP hD hS => ?_)
  refine W.widen (k := 21) (n := 1904) (by decide) (by decide) ?_
  refine va_putF (D := (dC, dI)) (ci := 12) (v := .ref q41) (ty := (.array .int)) (C := RX12) (T := TX12) (N := 75) hx hb ht inX12 tyX12 tyX12_ok nmX12 hown hK hP hD hS 0 rfl rfl 31 (by decide) (ht _ m_1170) (fun _ h9 => h9) rfl hin rfl (by decide +kernel) rfl rfl (Nat.le_of_ble_eq_true rfl) dX12_init_185 (fun H locs hP hD hS => ?_)
  have hK : va_K (dC, dI) classes [(ca2, .int), (ca4, .int), (ca6, .int), (ca8, .int), (ca10, .int), (ca12, .int), (ca14, .int), (ca16, .int), (ca18, .int), (ca20, .int), (ca22, .int), (ca24, .int), (ca26, .int), (ca28, .int), (ca30, .int), (ca32, .int), (ca34, .int), (ca36, .int), (ca38, .int), (ca40, .int), (ca42, .int)] s := hK
  obtain ⟨ws9, hP, hD, he9⟩ : ∃ ws9 : va_W, va_P (dC, dI) classes ws9 H ∧ va_D A ws9 ∧ ws9 = [(h, .inr (12, [.int 0, .int 0, .ref q1, .int 0, .ref q3, .ref q5, .ref q7, .ref q9, .ref q11, .ref q13, .ref q15, .ref q17, .ref q19, .int 0, .ref q21, .ref q23, .ref q25, .long 0, .long 0, .int 0, .int (-1), .int (-1), .int (-1), .int 0, .ref q27, .ref q29, .ref q31, .ref q33, .ref q35, .ref q37, .ref q39, .ref q41, .null, .int 0, .int 0, .int 0, .int 0, .int 0, .int 0, .null, .null, .int 0, .null, .null, .long 0, .long 0, .long 0, .long 0, .int 0, .null, .null, .null, .null, .null, .null, .null, .null, .int 0, .null, .null, .int 0, .int 0, .int 0, .null, .null, .int 0, .int 0, .int 0, .null, .null, .null, .null, .null, .null, .null])), (q1, .inl (ca2, 10, .inl (fun _ => 0))), (q3, .inl (ca4, 60, .inl (fun _ => 0))), (q5, .inl (ca6, 60, .inl (fun _ => 0))), (q7, .inl (ca8, 60, .inl (fun _ => 0))), (q9, .inl (ca10, 60, .inl (fun _ => 0))), (q11, .inl (ca12, 60, .inl (fun _ => 0))), (q13, .inl (ca14, 60, .inl (fun _ => 0))), (q15, .inl (ca16, 60, .inl (fun _ => 0))), (q17, .inl (ca18, 60, .inl (fun _ => 0))), (q19, .inl (ca20, 60, .inl (fun _ => 0))), (q21, .inl (ca22, 30, .inl (fun _ => 0))), (q23, .inl (ca24, 30, .inl (fun _ => 0))), (q25, .inl (ca26, 30, .inl (fun _ => 0))), (q27, .inl (ca28, 8, .inl (fun _ => 0))), (q29, .inl (ca30, 8, .inl (fun _ => 0))), (q31, .inl (ca32, 96, .inl (fun _ => 0))), (q33, .inl (ca34, 96, .inl (fun _ => 0))), (q35, .inl (ca36, 96, .inl (fun _ => 0))), (q37, .inl (ca38, 96, .inl (fun _ => 0))), (q39, .inl (ca40, 96, .inl (fun _ => 0))), (q41, .inl (ca42, 768, .inl (fun _ => 0)))] := ⟨_, hP, hD, rfl⟩
  subst he9
  refine lv_aload_n hx hb dX12_init_188 rfl (lv_at hl 0 rfl) ?_
  refine lv_sipush (v := 200) hx hb dX12_init_189 (by decide) ?_
  refine va_newa (atype := .int) (ty := .int) (a0 := (200, .inl (fun _ => 0))) (N' := 200) hx hb (ht _ m_125) rfl hK hP hD hS hA (fun _ => rfl) (by decide) (by decide) (by decide) (Nat.le_of_ble_eq_true rfl) (Nat.le_of_ble_eq_true rfl) dX12_init_192 (fun q43 ca44 H hK hP hD hS => ?_)
  refine W.widen (k := 22) (n := 2104) (by decide) (by decide) ?_
  refine va_putF (D := (dC, dI)) (ci := 12) (v := .ref q43) (ty := (.array .int)) (C := RX12) (T := TX12) (N := 75) hx hb ht inX12 tyX12 tyX12_ok nmX12 hown hK hP hD hS 0 rfl rfl 32 (by decide) (ht _ m_1171) (fun _ h9 => h9) rfl hin rfl (by decide +kernel) rfl rfl (Nat.le_of_ble_eq_true rfl) dX12_init_194 (fun H locs hP hD hS => ?_)
  refine lv_aload_n hx hb dX12_init_197 rfl (lv_at hl 0 rfl) ?_
  refine lv_iconst (v := (-1)) hx hb dX12_init_198 (by decide) ?_
  refine va_put (D := (dC, dI)) (ci := 12) (v := .int (-1)) (ty := (.int)) (C := RX12) (T := TX12) (N := 75) hx hb ht inX12 tyX12 tyX12_ok nmX12 hown hK hP hD hS 0 rfl rfl 36 (by decide) (ht _ m_1175) (fun _ h9 => h9) rfl (by decide +kernel) rfl rfl (Nat.le_of_ble_eq_true rfl) dX12_init_199 (fun H locs hP hD hS => ?_)
  refine lv_aload_n hx hb dX12_init_202 rfl (lv_at hl 0 rfl) ?_
  refine lv_bipush (v := 8) hx hb dX12_init_203 (by decide) ?_
  refine va_newa (atype := .boolean) (ty := .boolean) (a0 := (8, .inl (fun _ => 0))) (N' := 8) hx hb (ht _ m_221) rfl hK hP hD hS hA (fun _ => rfl) (by decide) (by decide) (by decide) (Nat.le_of_ble_eq_true rfl) (Nat.le_of_ble_eq_true rfl) dX12_init_205 (fun q45 ca46 H hK hP hD hS => ?_)
  refine W.widen (k := 23) (n := 2112) (by decide) (by decide) ?_
  refine va_putF (D := (dC, dI)) (ci := 12) (v := .ref q45) (ty := (.array .boolean)) (C := RX12) (T := TX12) (N := 75) hx hb ht inX12 tyX12 tyX12_ok nmX12 hown hK hP hD hS 0 rfl rfl 39 (by decide) (ht _ m_1178) (fun _ h9 => h9) rfl hin rfl (by decide +kernel) rfl rfl (Nat.le_of_ble_eq_true rfl) dX12_init_207 (fun H locs hP hD hS => ?_)
  refine lv_aload_n hx hb dX12_init_210 rfl (lv_at hl 0 rfl) ?_
  refine lv_bipush (v := 8) hx hb dX12_init_211 (by decide) ?_
  refine va_newa (atype := .int) (ty := .int) (a0 := (8, .inl (fun _ => 0))) (N' := 8) hx hb (ht _ m_125) rfl hK hP hD hS hA (fun _ => rfl) (by decide) (by decide) (by decide) (Nat.le_of_ble_eq_true rfl) (Nat.le_of_ble_eq_true rfl) dX12_init_213 (fun q47 ca48 H hK hP hD hS => ?_)
  refine W.widen (k := 24) (n := 2120) (by decide) (by decide) ?_
  refine va_putF (D := (dC, dI)) (ci := 12) (v := .ref q47) (ty := (.array .int)) (C := RX12) (T := TX12) (N := 75) hx hb ht inX12 tyX12 tyX12_ok nmX12 hown hK hP hD hS 0 rfl rfl 40 (by decide) (ht _ m_1179) (fun _ h9 => h9) rfl hin rfl (by decide +kernel) rfl rfl (Nat.le_of_ble_eq_true rfl) dX12_init_215 (fun H locs hP hD hS => ?_)
  have hK : va_K (dC, dI) classes [(ca2, .int), (ca4, .int), (ca6, .int), (ca8, .int), (ca10, .int), (ca12, .int), (ca14, .int), (ca16, .int), (ca18, .int), (ca20, .int), (ca22, .int), (ca24, .int), (ca26, .int), (ca28, .int), (ca30, .int), (ca32, .int), (ca34, .int), (ca36, .int), (ca38, .int), (ca40, .int), (ca42, .int), (ca44, .int), (ca46, .boolean), (ca48, .int)] s := hK
  obtain ⟨ws9, hP, hD, he9⟩ : ∃ ws9 : va_W, va_P (dC, dI) classes ws9 H ∧ va_D A ws9 ∧ ws9 = [(h, .inr (12, [.int 0, .int 0, .ref q1, .int 0, .ref q3, .ref q5, .ref q7, .ref q9, .ref q11, .ref q13, .ref q15, .ref q17, .ref q19, .int 0, .ref q21, .ref q23, .ref q25, .long 0, .long 0, .int 0, .int (-1), .int (-1), .int (-1), .int 0, .ref q27, .ref q29, .ref q31, .ref q33, .ref q35, .ref q37, .ref q39, .ref q41, .ref q43, .int 0, .int 0, .int 0, .int (-1), .int 0, .int 0, .ref q45, .ref q47, .int 0, .null, .null, .long 0, .long 0, .long 0, .long 0, .int 0, .null, .null, .null, .null, .null, .null, .null, .null, .int 0, .null, .null, .int 0, .int 0, .int 0, .null, .null, .int 0, .int 0, .int 0, .null, .null, .null, .null, .null, .null, .null])), (q1, .inl (ca2, 10, .inl (fun _ => 0))), (q3, .inl (ca4, 60, .inl (fun _ => 0))), (q5, .inl (ca6, 60, .inl (fun _ => 0))), (q7, .inl (ca8, 60, .inl (fun _ => 0))), (q9, .inl (ca10, 60, .inl (fun _ => 0))), (q11, .inl (ca12, 60, .inl (fun _ => 0))), (q13, .inl (ca14, 60, .inl (fun _ => 0))), (q15, .inl (ca16, 60, .inl (fun _ => 0))), (q17, .inl (ca18, 60, .inl (fun _ => 0))), (q19, .inl (ca20, 60, .inl (fun _ => 0))), (q21, .inl (ca22, 30, .inl (fun _ => 0))), (q23, .inl (ca24, 30, .inl (fun _ => 0))), (q25, .inl (ca26, 30, .inl (fun _ => 0))), (q27, .inl (ca28, 8, .inl (fun _ => 0))), (q29, .inl (ca30, 8, .inl (fun _ => 0))), (q31, .inl (ca32, 96, .inl (fun _ => 0))), (q33, .inl (ca34, 96, .inl (fun _ => 0))), (q35, .inl (ca36, 96, .inl (fun _ => 0))), (q37, .inl (ca38, 96, .inl (fun _ => 0))), (q39, .inl (ca40, 96, .inl (fun _ => 0))), (q41, .inl (ca42, 768, .inl (fun _ => 0))), (q43, .inl (ca44, 200, .inl (fun _ => 0))), (q45, .inl (ca46, 8, .inl (fun _ => 0))), (q47, .inl (ca48, 8, .inl (fun _ => 0)))] := ⟨_, hP, hD, rfl⟩
  subst he9
  refine lv_aload_n hx hb dX12_init_218 rfl (lv_at hl 0 rfl) ?_
  refine lv_iconst (v := 3) hx hb dX12_init_219 (by decide) ?_
  refine va_newa (atype := .long) (ty := .long) (a0 := (3, .inr (.inl (fun _ => 0)))) (N' := 3) hx hb (ht _ m_278) rfl hK hP hD hS hA (fun _ => rfl) (by decide) (by decide) (by decide) (Nat.le_of_ble_eq_true rfl) (Nat.le_of_ble_eq_true rfl) dX12_init_220 (fun q49 ca50 H hK hP hD hS => ?_)
  refine W.widen (k := 25) (n := 2123) (by decide) (by decide) ?_
  refine va_putF (D := (dC, dI)) (ci := 12) (v := .ref q49) (ty := (.array .long)) (C := RX12) (T := TX12) (N := 75) hx hb ht inX12 tyX12 tyX12_ok nmX12 hown hK hP hD hS 0 rfl rfl 42 (by decide) (ht _ m_1181) (fun _ h9 => h9) rfl hin rfl (by decide +kernel) rfl rfl (Nat.le_of_ble_eq_true rfl) dX12_init_222 (fun H locs hP hD hS => ?_)
  refine lv_aload_n hx hb dX12_init_225 rfl (lv_at hl 0 rfl) ?_
  refine lv_iconst (v := 3) hx hb dX12_init_226 (by decide) ?_
  refine va_newa (atype := .long) (ty := .long) (a0 := (3, .inr (.inl (fun _ => 0)))) (N' := 3) hx hb (ht _ m_278) rfl hK hP hD hS hA (fun _ => rfl) (by decide) (by decide) (by decide) (Nat.le_of_ble_eq_true rfl) (Nat.le_of_ble_eq_true rfl) dX12_init_227 (fun q51 ca52 H hK hP hD hS => ?_)
  refine W.widen (k := 26) (n := 2126) (by decide) (by decide) ?_
  refine va_putF (D := (dC, dI)) (ci := 12) (v := .ref q51) (ty := (.array .long)) (C := RX12) (T := TX12) (N := 75) hx hb ht inX12 tyX12 tyX12_ok nmX12 hown hK hP hD hS 0 rfl rfl 43 (by decide) (ht _ m_1182) (fun _ h9 => h9) rfl hin rfl (by decide +kernel) rfl rfl (Nat.le_of_ble_eq_true rfl) dX12_init_229 (fun H locs hP hD hS => ?_)
  refine lv_aload_n hx hb dX12_init_232 rfl (lv_at hl 0 rfl) ?_
  refine lv_bipush (v := 80) hx hb dX12_init_233 (by decide) ?_
  refine va_newa (atype := .int) (ty := .int) (a0 := (80, .inl (fun _ => 0))) (N' := 80) hx hb (ht _ m_125) rfl hK hP hD hS hA (fun _ => rfl) (by decide) (by decide) (by decide) (Nat.le_of_ble_eq_true rfl) (Nat.le_of_ble_eq_true rfl) dX12_init_235 (fun q53 ca54 H hK hP hD hS => ?_)
  refine W.widen (k := 27) (n := 2206) (by decide) (by decide) ?_
  refine va_putF (D := (dC, dI)) (ci := 12) (v := .ref q53) (ty := (.array .int)) (C := RX12) (T := TX12) (N := 75) hx hb ht inX12 tyX12 tyX12_ok nmX12 hown hK hP hD hS 0 rfl rfl 49 (by decide) (ht _ m_1188) (fun _ h9 => h9) rfl hin rfl (by decide +kernel) rfl rfl (Nat.le_of_ble_eq_true rfl) dX12_init_237 (fun H locs hP hD hS => ?_)
  refine lv_aload_n hx hb dX12_init_240 rfl (lv_at hl 0 rfl) ?_
  refine lv_bipush (v := 12) hx hb dX12_init_241 (by decide) ?_
  refine va_newa (atype := .int) (ty := .int) (a0 := (12, .inl (fun _ => 0))) (N' := 12) hx hb (ht _ m_125) rfl hK hP hD hS hA (fun _ => rfl) (by decide) (by decide) (by decide) (Nat.le_of_ble_eq_true rfl) (Nat.le_of_ble_eq_true rfl) dX12_init_243 (fun q55 ca56 H hK hP hD hS => ?_)
  refine W.widen (k := 28) (n := 2218) (by decide) (by decide) ?_
  refine va_putF (D := (dC, dI)) (ci := 12) (v := .ref q55) (ty := (.array .int)) (C := RX12) (T := TX12) (N := 75) hx hb ht inX12 tyX12 tyX12_ok nmX12 hown hK hP hD hS 0 rfl rfl 50 (by decide) (ht _ m_1189) (fun _ h9 => h9) rfl hin rfl (by decide +kernel) rfl rfl (Nat.le_of_ble_eq_true rfl) dX12_init_245 (fun H locs hP hD hS => ?_)
  have hK : va_K (dC, dI) classes [(ca2, .int), (ca4, .int), (ca6, .int), (ca8, .int), (ca10, .int), (ca12, .int), (ca14, .int), (ca16, .int), (ca18, .int), (ca20, .int), (ca22, .int), (ca24, .int), (ca26, .int), (ca28, .int), (ca30, .int), (ca32, .int), (ca34, .int), (ca36, .int), (ca38, .int), (ca40, .int), (ca42, .int), (ca44, .int), (ca46, .boolean), (ca48, .int), (ca50, .long), (ca52, .long), (ca54, .int), (ca56, .int)] s := hK
  obtain ⟨ws9, hP, hD, he9⟩ : ∃ ws9 : va_W, va_P (dC, dI) classes ws9 H ∧ va_D A ws9 ∧ ws9 = [(h, .inr (12, [.int 0, .int 0, .ref q1, .int 0, .ref q3, .ref q5, .ref q7, .ref q9, .ref q11, .ref q13, .ref q15, .ref q17, .ref q19, .int 0, .ref q21, .ref q23, .ref q25, .long 0, .long 0, .int 0, .int (-1), .int (-1), .int (-1), .int 0, .ref q27, .ref q29, .ref q31, .ref q33, .ref q35, .ref q37, .ref q39, .ref q41, .ref q43, .int 0, .int 0, .int 0, .int (-1), .int 0, .int 0, .ref q45, .ref q47, .int 0, .ref q49, .ref q51, .long 0, .long 0, .long 0, .long 0, .int 0, .ref q53, .ref q55, .null, .null, .null, .null, .null, .null, .int 0, .null, .null, .int 0, .int 0, .int 0, .null, .null, .int 0, .int 0, .int 0, .null, .null, .null, .null, .null, .null, .null])), (q1, .inl (ca2, 10, .inl (fun _ => 0))), (q3, .inl (ca4, 60, .inl (fun _ => 0))), (q5, .inl (ca6, 60, .inl (fun _ => 0))), (q7, .inl (ca8, 60, .inl (fun _ => 0))), (q9, .inl (ca10, 60, .inl (fun _ => 0))), (q11, .inl (ca12, 60, .inl (fun _ => 0))), (q13, .inl (ca14, 60, .inl (fun _ => 0))), (q15, .inl (ca16, 60, .inl (fun _ => 0))), (q17, .inl (ca18, 60, .inl (fun _ => 0))), (q19, .inl (ca20, 60, .inl (fun _ => 0))), (q21, .inl (ca22, 30, .inl (fun _ => 0))), (q23, .inl (ca24, 30, .inl (fun _ => 0))), (q25, .inl (ca26, 30, .inl (fun _ => 0))), (q27, .inl (ca28, 8, .inl (fun _ => 0))), (q29, .inl (ca30, 8, .inl (fun _ => 0))), (q31, .inl (ca32, 96, .inl (fun _ => 0))), (q33, .inl (ca34, 96, .inl (fun _ => 0))), (q35, .inl (ca36, 96, .inl (fun _ => 0))), (q37, .inl (ca38, 96, .inl (fun _ => 0))), (q39, .inl (ca40, 96, .inl (fun _ => 0))), (q41, .inl (ca42, 768, .inl (fun _ => 0))), (q43, .inl (ca44, 200, .inl (fun _ => 0))), (q45, .inl (ca46, 8, .inl (fun _ => 0))), (q47, .inl (ca48, 8, .inl (fun _ => 0))), (q49, .inl (ca50, 3, .inr (.inl (fun _ => 0)))), (q51, .inl (ca52, 3, .inr (.inl (fun _ => 0)))), (q53, .inl (ca54, 80, .inl (fun _ => 0))), (q55, .inl (ca56, 12, .inl (fun _ => 0)))] := ⟨_, hP, hD, rfl⟩
  subst he9
  refine lv_aload_n hx hb dX12_init_248 rfl (lv_at hl 0 rfl) ?_
  refine lv_bipush (v := 10) hx hb dX12_init_249 (by decide) ?_
  refine va_newa (atype := .int) (ty := .int) (a0 := (10, .inl (fun _ => 0))) (N' := 10) hx hb (ht _ m_125) rfl hK hP hD hS hA (fun _ => rfl) (by decide) (by decide) (by decide) (Nat.le_of_ble_eq_true rfl) (Nat.le_of_ble_eq_true rfl) dX12_init_251 (fun q57 ca58 H hK hP hD hS => ?_)
  refine W.widen (k := 29) (n := 2228) (by decide) (by decide) ?_
  refine va_putF (D := (dC, dI)) (ci := 12) (v := .ref q57) (ty := (.array .int)) (C := RX12) (T := TX12) (N := 75) hx hb ht inX12 tyX12 tyX12_ok nmX12 hown hK hP hD hS 0 rfl rfl 51 (by decide) (ht _ m_1190) (fun _ h9 => h9) rfl hin rfl (by decide +kernel) rfl rfl (Nat.le_of_ble_eq_true rfl) dX12_init_253 (fun H locs hP hD hS => ?_)
  refine lv_aload_n hx hb dX12_init_256 rfl (lv_at hl 0 rfl) ?_
  refine lv_bipush (v := 120) hx hb dX12_init_257 (by decide) ?_
  refine va_newa (atype := .int) (ty := .int) (a0 := (120, .inl (fun _ => 0))) (N' := 120) hx hb (ht _ m_125) rfl hK hP hD hS hA (fun _ => rfl) (by decide) (by decide) (by decide) (Nat.le_of_ble_eq_true rfl) (Nat.le_of_ble_eq_true rfl) dX12_init_259 (fun q59 ca60 H hK hP hD hS => ?_)
  refine W.widen (k := 30) (n := 2348) (by decide) (by decide) ?_
  refine va_putF (D := (dC, dI)) (ci := 12) (v := .ref q59) (ty := (.array .int)) (C := RX12) (T := TX12) (N := 75) hx hb ht inX12 tyX12 tyX12_ok nmX12 hown hK hP hD hS 0 rfl rfl 52 (by decide) (ht _ m_1191) (fun _ h9 => h9) rfl hin rfl (by decide +kernel) rfl rfl (Nat.le_of_ble_eq_true rfl) dX12_init_261 (fun H locs hP hD hS => ?_)
  refine lv_aload_n hx hb dX12_init_264 rfl (lv_at hl 0 rfl) ?_
  refine lv_bipush (v := 10) hx hb dX12_init_265 (by decide) ?_
  refine va_newa (atype := .int) (ty := .int) (a0 := (10, .inl (fun _ => 0))) (N' := 10) hx hb (ht _ m_125) rfl hK hP hD hS hA (fun _ => rfl) (by decide) (by decide) (by decide) (Nat.le_of_ble_eq_true rfl) (Nat.le_of_ble_eq_true rfl) dX12_init_267 (fun q61 ca62 H hK hP hD hS => ?_)
  refine W.widen (k := 31) (n := 2358) (by decide) (by decide) ?_
  refine va_putF (D := (dC, dI)) (ci := 12) (v := .ref q61) (ty := (.array .int)) (C := RX12) (T := TX12) (N := 75) hx hb ht inX12 tyX12 tyX12_ok nmX12 hown hK hP hD hS 0 rfl rfl 53 (by decide) (ht _ m_1192) (fun _ h9 => h9) rfl hin rfl (by decide +kernel) rfl rfl (Nat.le_of_ble_eq_true rfl) dX12_init_269 (fun H locs hP hD hS => ?_)
  refine lv_aload_n hx hb dX12_init_272 rfl (lv_at hl 0 rfl) ?_
  refine lv_bipush (v := 80) hx hb dX12_init_273 (by decide) ?_
  refine va_newa (atype := .int) (ty := .int) (a0 := (80, .inl (fun _ => 0))) (N' := 80) hx hb (ht _ m_125) rfl hK hP hD hS hA (fun _ => rfl) (by decide) (by decide) (by decide) (Nat.le_of_ble_eq_true rfl) (Nat.le_of_ble_eq_true rfl) dX12_init_275 (fun q63 ca64 H hK hP hD hS => ?_)
  refine W.widen (k := 32) (n := 2438) (by decide) (by decide) ?_
  refine va_putF (D := (dC, dI)) (ci := 12) (v := .ref q63) (ty := (.array .int)) (C := RX12) (T := TX12) (N := 75) hx hb ht inX12 tyX12 tyX12_ok nmX12 hown hK hP hD hS 0 rfl rfl 54 (by decide) (ht _ m_1193) (fun _ h9 => h9) rfl hin rfl (by decide +kernel) rfl rfl (Nat.le_of_ble_eq_true rfl) dX12_init_277 (fun H locs hP hD hS => ?_)
  have hK : va_K (dC, dI) classes [(ca2, .int), (ca4, .int), (ca6, .int), (ca8, .int), (ca10, .int), (ca12, .int), (ca14, .int), (ca16, .int), (ca18, .int), (ca20, .int), (ca22, .int), (ca24, .int), (ca26, .int), (ca28, .int), (ca30, .int), (ca32, .int), (ca34, .int), (ca36, .int), (ca38, .int), (ca40, .int), (ca42, .int), (ca44, .int), (ca46, .boolean), (ca48, .int), (ca50, .long), (ca52, .long), (ca54, .int), (ca56, .int), (ca58, .int), (ca60, .int), (ca62, .int), (ca64, .int)] s := hK
  obtain ⟨ws9, hP, hD, he9⟩ : ∃ ws9 : va_W, va_P (dC, dI) classes ws9 H ∧ va_D A ws9 ∧ ws9 = [(h, .inr (12, [.int 0, .int 0, .ref q1, .int 0, .ref q3, .ref q5, .ref q7, .ref q9, .ref q11, .ref q13, .ref q15, .ref q17, .ref q19, .int 0, .ref q21, .ref q23, .ref q25, .long 0, .long 0, .int 0, .int (-1), .int (-1), .int (-1), .int 0, .ref q27, .ref q29, .ref q31, .ref q33, .ref q35, .ref q37, .ref q39, .ref q41, .ref q43, .int 0, .int 0, .int 0, .int (-1), .int 0, .int 0, .ref q45, .ref q47, .int 0, .ref q49, .ref q51, .long 0, .long 0, .long 0, .long 0, .int 0, .ref q53, .ref q55, .ref q57, .ref q59, .ref q61, .ref q63, .null, .null, .int 0, .null, .null, .int 0, .int 0, .int 0, .null, .null, .int 0, .int 0, .int 0, .null, .null, .null, .null, .null, .null, .null])), (q1, .inl (ca2, 10, .inl (fun _ => 0))), (q3, .inl (ca4, 60, .inl (fun _ => 0))), (q5, .inl (ca6, 60, .inl (fun _ => 0))), (q7, .inl (ca8, 60, .inl (fun _ => 0))), (q9, .inl (ca10, 60, .inl (fun _ => 0))), (q11, .inl (ca12, 60, .inl (fun _ => 0))), (q13, .inl (ca14, 60, .inl (fun _ => 0))), (q15, .inl (ca16, 60, .inl (fun _ => 0))), (q17, .inl (ca18, 60, .inl (fun _ => 0))), (q19, .inl (ca20, 60, .inl (fun _ => 0))), (q21, .inl (ca22, 30, .inl (fun _ => 0))), (q23, .inl (ca24, 30, .inl (fun _ => 0))), (q25, .inl (ca26, 30, .inl (fun _ => 0))), (q27, .inl (ca28, 8, .inl (fun _ => 0))), (q29, .inl (ca30, 8, .inl (fun _ => 0))), (q31, .inl (ca32, 96, .inl (fun _ => 0))), (q33, .inl (ca34, 96, .inl (fun _ => 0))), (q35, .inl (ca36, 96, .inl (fun _ => 0))), (q37, .inl (ca38, 96, .inl (fun _ => 0))), (q39, .inl (ca40, 96, .inl (fun _ => 0))), (q41, .inl (ca42, 768, .inl (fun _ => 0))), (q43, .inl (ca44, 200, .inl (fun _ => 0))), (q45, .inl (ca46, 8, .inl (fun _ => 0))), (q47, .inl (ca48, 8, .inl (fun _ => 0))), (q49, .inl (ca50, 3, .inr (.inl (fun _ => 0)))), (q51, .inl (ca52, 3, .inr (.inl (fun _ => 0)))), (q53, .inl (ca54, 80, .inl (fun _ => 0))), (q55, .inl (ca56, 12, .inl (fun _ => 0))), (q57, .inl (ca58, 10, .inl (fun _ => 0))), (q59, .inl (ca60, 120, .inl (fun _ => 0))), (q61, .inl (ca62, 10, .inl (fun _ => 0))), (q63, .inl (ca64, 80, .inl (fun _ => 0)))] := ⟨_, hP, hD, rfl⟩
  subst he9
  refine lv_aload_n hx hb dX12_init_280 rfl (lv_at hl 0 rfl) ?_
  refine lv_bipush (v := 10) hx hb dX12_init_281 (by decide) ?_
  refine va_newa (atype := .int) (ty := .int) (a0 := (10, .inl (fun _ => 0))) (N' := 10) hx hb (ht _ m_125) rfl hK hP hD hS hA (fun _ => rfl) (by decide) (by decide) (by decide) (Nat.le_of_ble_eq_true rfl) (Nat.le_of_ble_eq_true rfl) dX12_init_283 (fun q65 ca66 H hK hP hD hS => ?_)
  refine W.widen (k := 33) (n := 2448) (by decide) (by decide) ?_
  refine va_putF (D := (dC, dI)) (ci := 12) (v := .ref q65) (ty := (.array .int)) (C := RX12) (T := TX12) (N := 75) hx hb ht inX12 tyX12 tyX12_ok nmX12 hown hK hP hD hS 0 rfl rfl 55 (by decide) (ht _ m_1194) (fun _ h9 => h9) rfl hin rfl (by decide +kernel) rfl rfl (Nat.le_of_ble_eq_true rfl) dX12_init_285 (fun H locs hP hD hS => ?_)
  refine lv_aload_n hx hb dX12_init_288 rfl (lv_at hl 0 rfl) ?_
  refine lv_bipush (v := 10) hx hb dX12_init_289 (by decide) ?_
  refine va_newa (atype := .int) (ty := .int) (a0 := (10, .inl (fun _ => 0))) (N' := 10) hx hb (ht _ m_125) rfl hK hP hD hS hA (fun _ => rfl) (by decide) (by decide) (by decide) (Nat.le_of_ble_eq_true rfl) (Nat.le_of_ble_eq_true rfl) dX12_init_291 (fun q67 ca68 H hK hP hD hS => ?_)
  refine W.widen (k := 34) (n := 2458) (by decide) (by decide) ?_
  refine va_putF (D := (dC, dI)) (ci := 12) (v := .ref q67) (ty := (.array .int)) (C := RX12) (T := TX12) (N := 75) hx hb ht inX12 tyX12 tyX12_ok nmX12 hown hK hP hD hS 0 rfl rfl 56 (by decide) (ht _ m_1195) (fun _ h9 => h9) rfl hin rfl (by decide +kernel) rfl rfl (Nat.le_of_ble_eq_true rfl) dX12_init_293 (fun H locs hP hD hS => ?_)
  refine lv_aload_n hx hb dX12_init_296 rfl (lv_at hl 0 rfl) ?_
  refine lv_bipush (v := 8) hx hb dX12_init_297 (by decide) ?_
  refine va_newa (atype := .int) (ty := .int) (a0 := (8, .inl (fun _ => 0))) (N' := 8) hx hb (ht _ m_125) rfl hK hP hD hS hA (fun _ => rfl) (by decide) (by decide) (by decide) (Nat.le_of_ble_eq_true rfl) (Nat.le_of_ble_eq_true rfl) dX12_init_299 (fun q69 ca70 H hK hP hD hS => ?_)
  refine W.widen (k := 35) (n := 2466) (by decide) (by decide) ?_
  refine va_putF (D := (dC, dI)) (ci := 12) (v := .ref q69) (ty := (.array .int)) (C := RX12) (T := TX12) (N := 75) hx hb ht inX12 tyX12 tyX12_ok nmX12 hown hK hP hD hS 0 rfl rfl 58 (by decide) (ht _ m_1197) (fun _ h9 => h9) rfl hin rfl (by decide +kernel) rfl rfl (Nat.le_of_ble_eq_true rfl) dX12_init_301 (fun H locs hP hD hS => ?_)
  refine lv_aload_n hx hb dX12_init_304 rfl (lv_at hl 0 rfl) ?_
  refine lv_iconst (v := 3) hx hb dX12_init_305 (by decide) ?_
  refine va_newa (atype := .int) (ty := .int) (a0 := (3, .inl (fun _ => 0))) (N' := 3) hx hb (ht _ m_125) rfl hK hP hD hS hA (fun _ => rfl) (by decide) (by decide) (by decide) (Nat.le_of_ble_eq_true rfl) (Nat.le_of_ble_eq_true rfl) dX12_init_306 (fun q71 ca72 H hK hP hD hS => ?_)
  refine W.widen (k := 36) (n := 2469) (by decide) (by decide) ?_
  refine va_putF (D := (dC, dI)) (ci := 12) (v := .ref q71) (ty := (.array .int)) (C := RX12) (T := TX12) (N := 75) hx hb ht inX12 tyX12 tyX12_ok nmX12 hown hK hP hD hS 0 rfl rfl 59 (by decide) (ht _ m_1198) (fun _ h9 => h9) rfl hin rfl (by decide +kernel) rfl rfl (Nat.le_of_ble_eq_true rfl) dX12_init_308 (fun H locs hP hD hS => ?_)
  have hK : va_K (dC, dI) classes [(ca2, .int), (ca4, .int), (ca6, .int), (ca8, .int), (ca10, .int), (ca12, .int), (ca14, .int), (ca16, .int), (ca18, .int), (ca20, .int), (ca22, .int), (ca24, .int), (ca26, .int), (ca28, .int), (ca30, .int), (ca32, .int), (ca34, .int), (ca36, .int), (ca38, .int), (ca40, .int), (ca42, .int), (ca44, .int), (ca46, .boolean), (ca48, .int), (ca50, .long), (ca52, .long), (ca54, .int), (ca56, .int), (ca58, .int), (ca60, .int), (ca62, .int), (ca64, .int), (ca66, .int), (ca68, .int), (ca70, .int), (ca72, .int)] s := hK
  obtain ⟨ws9, hP, hD, he9⟩ : ∃ ws9 : va_W, va_P (dC, dI) classes ws9 H ∧ va_D A ws9 ∧ ws9 = [(h, .inr (12, [.int 0, .int 0, .ref q1, .int 0, .ref q3, .ref q5, .ref q7, .ref q9, .ref q11, .ref q13, .ref q15, .ref q17, .ref q19, .int 0, .ref q21, .ref q23, .ref q25, .long 0, .long 0, .int 0, .int (-1), .int (-1), .int (-1), .int 0, .ref q27, .ref q29, .ref q31, .ref q33, .ref q35, .ref q37, .ref q39, .ref q41, .ref q43, .int 0, .int 0, .int 0, .int (-1), .int 0, .int 0, .ref q45, .ref q47, .int 0, .ref q49, .ref q51, .long 0, .long 0, .long 0, .long 0, .int 0, .ref q53, .ref q55, .ref q57, .ref q59, .ref q61, .ref q63, .ref q65, .ref q67, .int 0, .ref q69, .ref q71, .int 0, .int 0, .int 0, .null, .null, .int 0, .int 0, .int 0, .null, .null, .null, .null, .null, .null, .null])), (q1, .inl (ca2, 10, .inl (fun _ => 0))), (q3, .inl (ca4, 60, .inl (fun _ => 0))), (q5, .inl (ca6, 60, .inl (fun _ => 0))), (q7, .inl (ca8, 60, .inl (fun _ => 0))), (q9, .inl (ca10, 60, .inl (fun _ => 0))), (q11, .inl (ca12, 60, .inl (fun _ => 0))), (q13, .inl (ca14, 60, .inl (fun _ => 0))), (q15, .inl (ca16, 60, .inl (fun _ => 0))), (q17, .inl (ca18, 60, .inl (fun _ => 0))), (q19, .inl (ca20, 60, .inl (fun _ => 0))), (q21, .inl (ca22, 30, .inl (fun _ => 0))), (q23, .inl (ca24, 30, .inl (fun _ => 0))), (q25, .inl (ca26, 30, .inl (fun _ => 0))), (q27, .inl (ca28, 8, .inl (fun _ => 0))), (q29, .inl (ca30, 8, .inl (fun _ => 0))), (q31, .inl (ca32, 96, .inl (fun _ => 0))), (q33, .inl (ca34, 96, .inl (fun _ => 0))), (q35, .inl (ca36, 96, .inl (fun _ => 0))), (q37, .inl (ca38, 96, .inl (fun _ => 0))), (q39, .inl (ca40, 96, .inl (fun _ => 0))), (q41, .inl (ca42, 768, .inl (fun _ => 0))), (q43, .inl (ca44, 200, .inl (fun _ => 0))), (q45, .inl (ca46, 8, .inl (fun _ => 0))), (q47, .inl (ca48, 8, .inl (fun _ => 0))), (q49, .inl (ca50, 3, .inr (.inl (fun _ => 0)))), (q51, .inl (ca52, 3, .inr (.inl (fun _ => 0)))), (q53, .inl (ca54, 80, .inl (fun _ => 0))), (q55, .inl (ca56, 12, .inl (fun _ => 0))), (q57, .inl (ca58, 10, .inl (fun _ => 0))), (q59, .inl (ca60, 120, .inl (fun _ => 0))), (q61, .inl (ca62, 10, .inl (fun _ => 0))), (q63, .inl (ca64, 80, .inl (fun _ => 0))), (q65, .inl (ca66, 10, .inl (fun _ => 0))), (q67, .inl (ca68, 10, .inl (fun _ => 0))), (q69, .inl (ca70, 8, .inl (fun _ => 0))), (q71, .inl (ca72, 3, .inl (fun _ => 0)))] := ⟨_, hP, hD, rfl⟩
  subst he9
  refine lv_aload_n hx hb dX12_init_311 rfl (lv_at hl 0 rfl) ?_
  refine lv_bipush (v := 8) hx hb dX12_init_312 (by decide) ?_
  refine va_newa (atype := .int) (ty := .int) (a0 := (8, .inl (fun _ => 0))) (N' := 8) hx hb (ht _ m_125) rfl hK hP hD hS hA (fun _ => rfl) (by decide) (by decide) (by decide) (Nat.le_of_ble_eq_true rfl) (Nat.le_of_ble_eq_true rfl) dX12_init_314 (fun q73 ca74 H hK hP hD hS => ?_)
  refine W.widen (k := 37) (n := 2477) (by decide) (by decide) ?_
  refine va_putF (D := (dC, dI)) (ci := 12) (v := .ref q73) (ty := (.array .int)) (C := RX12) (T := TX12) (N := 75) hx hb ht inX12 tyX12 tyX12_ok nmX12 hown hK hP hD hS 0 rfl rfl 63 (by decide) (ht _ m_1202) (fun _ h9 => h9) rfl hin rfl (by decide +kernel) rfl rfl (Nat.le_of_ble_eq_true rfl) dX12_init_316 (fun H locs hP hD hS => ?_)
  refine lv_aload_n hx hb dX12_init_319 rfl (lv_at hl 0 rfl) ?_
  refine lv_bipush (v := 8) hx hb dX12_init_320 (by decide) ?_
  refine va_newa (atype := .int) (ty := .int) (a0 := (8, .inl (fun _ => 0))) (N' := 8) hx hb (ht _ m_125) rfl hK hP hD hS hA (fun _ => rfl) (by decide) (by decide) (by decide) (Nat.le_of_ble_eq_true rfl) (Nat.le_of_ble_eq_true rfl) dX12_init_322 (fun q75 ca76 H hK hP hD hS => ?_)
  refine W.widen (k := 38) (n := 2485) (by decide) (by decide) ?_
  refine va_putF (D := (dC, dI)) (ci := 12) (v := .ref q75) (ty := (.array .int)) (C := RX12) (T := TX12) (N := 75) hx hb ht inX12 tyX12 tyX12_ok nmX12 hown hK hP hD hS 0 rfl rfl 64 (by decide) (ht _ m_1203) (fun _ h9 => h9) rfl hin rfl (by decide +kernel) rfl rfl (Nat.le_of_ble_eq_true rfl) dX12_init_324 (fun H locs hP hD hS => ?_)
  refine lv_aload_n hx hb dX12_init_327 rfl (lv_at hl 0 rfl) ?_
  refine lv_bipush (v := 40) hx hb dX12_init_328 (by decide) ?_
  refine va_newa (atype := .int) (ty := .int) (a0 := (40, .inl (fun _ => 0))) (N' := 40) hx hb (ht _ m_125) rfl hK hP hD hS hA (fun _ => rfl) (by decide) (by decide) (by decide) (Nat.le_of_ble_eq_true rfl) (Nat.le_of_ble_eq_true rfl) dX12_init_330 (fun q77 ca78 H hK hP hD hS => ?_)
  refine W.widen (k := 39) (n := 2525) (by decide) (by decide) ?_
  refine va_putF (D := (dC, dI)) (ci := 12) (v := .ref q77) (ty := (.array .int)) (C := RX12) (T := TX12) (N := 75) hx hb ht inX12 tyX12 tyX12_ok nmX12 hown hK hP hD hS 0 rfl rfl 68 (by decide) (ht _ m_1207) (fun _ h9 => h9) rfl hin rfl (by decide +kernel) rfl rfl (Nat.le_of_ble_eq_true rfl) dX12_init_332 (fun H locs hP hD hS => ?_)
  refine lv_aload_n hx hb dX12_init_335 rfl (lv_at hl 0 rfl) ?_
  refine lv_bipush (v := 40) hx hb dX12_init_336 (by decide) ?_
  refine va_newa (atype := .int) (ty := .int) (a0 := (40, .inl (fun _ => 0))) (N' := 40) hx hb (ht _ m_125) rfl hK hP hD hS hA (fun _ => rfl) (by decide) (by decide) (by decide) (Nat.le_of_ble_eq_true rfl) (Nat.le_of_ble_eq_true rfl) dX12_init_338 (fun q79 ca80 H hK hP hD hS => ?_)
  refine W.widen (k := 40) (n := 2565) (by decide) (by decide) ?_
  refine va_putF (D := (dC, dI)) (ci := 12) (v := .ref q79) (ty := (.array .int)) (C := RX12) (T := TX12) (N := 75) hx hb ht inX12 tyX12 tyX12_ok nmX12 hown hK hP hD hS 0 rfl rfl 69 (by decide) (ht _ m_1208) (fun _ h9 => h9) rfl hin rfl (by decide +kernel) rfl rfl (Nat.le_of_ble_eq_true rfl) dX12_init_340 (fun H locs hP hD hS => ?_)
  have hK : va_K (dC, dI) classes [(ca2, .int), (ca4, .int), (ca6, .int), (ca8, .int), (ca10, .int), (ca12, .int), (ca14, .int), (ca16, .int), (ca18, .int), (ca20, .int), (ca22, .int), (ca24, .int), (ca26, .int), (ca28, .int), (ca30, .int), (ca32, .int), (ca34, .int), (ca36, .int), (ca38, .int), (ca40, .int), (ca42, .int), (ca44, .int), (ca46, .boolean), (ca48, .int), (ca50, .long), (ca52, .long), (ca54, .int), (ca56, .int), (ca58, .int), (ca60, .int), (ca62, .int), (ca64, .int), (ca66, .int), (ca68, .int), (ca70, .int), (ca72, .int), (ca74, .int), (ca76, .int), (ca78, .int), (ca80, .int)] s := hK
  obtain ⟨ws9, hP, hD, he9⟩ : ∃ ws9 : va_W, va_P (dC, dI) classes ws9 H ∧ va_D A ws9 ∧ ws9 = [(h, .inr (12, [.int 0, .int 0, .ref q1, .int 0, .ref q3, .ref q5, .ref q7, .ref q9, .ref q11, .ref q13, .ref q15, .ref q17, .ref q19, .int 0, .ref q21, .ref q23, .ref q25, .long 0, .long 0, .int 0, .int (-1), .int (-1), .int (-1), .int 0, .ref q27, .ref q29, .ref q31, .ref q33, .ref q35, .ref q37, .ref q39, .ref q41, .ref q43, .int 0, .int 0, .int 0, .int (-1), .int 0, .int 0, .ref q45, .ref q47, .int 0, .ref q49, .ref q51, .long 0, .long 0, .long 0, .long 0, .int 0, .ref q53, .ref q55, .ref q57, .ref q59, .ref q61, .ref q63, .ref q65, .ref q67, .int 0, .ref q69, .ref q71, .int 0, .int 0, .int 0, .ref q73, .ref q75, .int 0, .int 0, .int 0, .ref q77, .ref q79, .null, .null, .null, .null, .null])), (q1, .inl (ca2, 10, .inl (fun _ => 0))), (q3, .inl (ca4, 60, .inl (fun _ => 0))), (q5, .inl (ca6, 60, .inl (fun _ => 0))), (q7, .inl (ca8, 60, .inl (fun _ => 0))), (q9, .inl (ca10, 60, .inl (fun _ => 0))), (q11, .inl (ca12, 60, .inl (fun _ => 0))), (q13, .inl (ca14, 60, .inl (fun _ => 0))), (q15, .inl (ca16, 60, .inl (fun _ => 0))), (q17, .inl (ca18, 60, .inl (fun _ => 0))), (q19, .inl (ca20, 60, .inl (fun _ => 0))), (q21, .inl (ca22, 30, .inl (fun _ => 0))), (q23, .inl (ca24, 30, .inl (fun _ => 0))), (q25, .inl (ca26, 30, .inl (fun _ => 0))), (q27, .inl (ca28, 8, .inl (fun _ => 0))), (q29, .inl (ca30, 8, .inl (fun _ => 0))), (q31, .inl (ca32, 96, .inl (fun _ => 0))), (q33, .inl (ca34, 96, .inl (fun _ => 0))), (q35, .inl (ca36, 96, .inl (fun _ => 0))), (q37, .inl (ca38, 96, .inl (fun _ => 0))), (q39, .inl (ca40, 96, .inl (fun _ => 0))), (q41, .inl (ca42, 768, .inl (fun _ => 0))), (q43, .inl (ca44, 200, .inl (fun _ => 0))), (q45, .inl (ca46, 8, .inl (fun _ => 0))), (q47, .inl (ca48, 8, .inl (fun _ => 0))), (q49, .inl (ca50, 3, .inr (.inl (fun _ => 0)))), (q51, .inl (ca52, 3, .inr (.inl (fun _ => 0)))), (q53, .inl (ca54, 80, .inl (fun _ => 0))), (q55, .inl (ca56, 12, .inl (fun _ => 0))), (q57, .inl (ca58, 10, .inl (fun _ => 0))), (q59, .inl (ca60, 120, .inl (fun _ => 0))), (q61, .inl (ca62, 10, .inl (fun _ => 0))), (q63, .inl (ca64, 80, .inl (fun _ => 0))), (q65, .inl (ca66, 10, .inl (fun _ => 0))), (q67, .inl (ca68, 10, .inl (fun _ => 0))), (q69, .inl (ca70, 8, .inl (fun _ => 0))), (q71, .inl (ca72, 3, .inl (fun _ => 0))), (q73, .inl (ca74, 8, .inl (fun _ => 0))), (q75, .inl (ca76, 8, .inl (fun _ => 0))), (q77, .inl (ca78, 40, .inl (fun _ => 0))), (q79, .inl (ca80, 40, .inl (fun _ => 0)))] := ⟨_, hP, hD, rfl⟩
  subst he9
  refine lv_aload_n hx hb dX12_init_343 rfl (lv_at hl 0 rfl) ?_
  refine lv_bipush (v := 40) hx hb dX12_init_344 (by decide) ?_
  refine va_newa (atype := .long) (ty := .long) (a0 := (40, .inr (.inl (fun _ => 0)))) (N' := 40) hx hb (ht _ m_278) rfl hK hP hD hS hA (fun _ => rfl) (by decide) (by decide) (by decide) (Nat.le_of_ble_eq_true rfl) (Nat.le_of_ble_eq_true rfl) dX12_init_346 (fun q81 ca82 H hK hP hD hS => ?_)
  refine W.widen (k := 41) (n := 2605) (by decide) (by decide) ?_
  refine va_putF (D := (dC, dI)) (ci := 12) (v := .ref q81) (ty := (.array .long)) (C := RX12) (T := TX12) (N := 75) hx hb ht inX12 tyX12 tyX12_ok nmX12 hown hK hP hD hS 0 rfl rfl 70 (by decide) (ht _ m_1209) (fun _ h9 => h9) rfl hin rfl (by decide +kernel) rfl rfl (Nat.le_of_ble_eq_true rfl) dX12_init_348 (fun H locs hP hD hS => ?_)
  refine lv_aload_n hx hb dX12_init_351 rfl (lv_at hl 0 rfl) ?_
  refine lv_bipush (v := 40) hx hb dX12_init_352 (by decide) ?_
  refine va_newa (atype := .int) (ty := .int) (a0 := (40, .inl (fun _ => 0))) (N' := 40) hx hb (ht _ m_125) rfl hK hP hD hS hA (fun _ => rfl) (by decide) (by decide) (by decide) (Nat.le_of_ble_eq_true rfl) (Nat.le_of_ble_eq_true rfl) dX12_init_354 (fun q83 ca84 H hK hP hD hS => ?_)
  refine W.widen (k := 42) (n := 2645) (by decide) (by decide) ?_
  refine va_putF (D := (dC, dI)) (ci := 12) (v := .ref q83) (ty := (.array .int)) (C := RX12) (T := TX12) (N := 75) hx hb ht inX12 tyX12 tyX12_ok nmX12 hown hK hP hD hS 0 rfl rfl 71 (by decide) (ht _ m_1210) (fun _ h9 => h9) rfl hin rfl (by decide +kernel) rfl rfl (Nat.le_of_ble_eq_true rfl) dX12_init_356 (fun H locs hP hD hS => ?_)
  refine lv_aload_n hx hb dX12_init_359 rfl (lv_at hl 0 rfl) ?_
  refine lv_bipush (v := 40) hx hb dX12_init_360 (by decide) ?_
  refine va_newa (atype := .int) (ty := .int) (a0 := (40, .inl (fun _ => 0))) (N' := 40) hx hb (ht _ m_125) rfl hK hP hD hS hA (fun _ => rfl) (by decide) (by decide) (by decide) (Nat.le_of_ble_eq_true rfl) (Nat.le_of_ble_eq_true rfl) dX12_init_362 (fun q85 ca86 H hK hP hD hS => ?_)
  refine W.widen (k := 43) (n := 2685) (by decide) (by decide) ?_
  refine va_putF (D := (dC, dI)) (ci := 12) (v := .ref q85) (ty := (.array .int)) (C := RX12) (T := TX12) (N := 75) hx hb ht inX12 tyX12 tyX12_ok nmX12 hown hK hP hD hS 0 rfl rfl 72 (by decide) (ht _ m_1211) (fun _ h9 => h9) rfl hin rfl (by decide +kernel) rfl rfl (Nat.le_of_ble_eq_true rfl) dX12_init_364 (fun H locs hP hD hS => ?_)
  refine lv_aload_n hx hb dX12_init_367 rfl (lv_at hl 0 rfl) ?_
  refine lv_bipush (v := 40) hx hb dX12_init_368 (by decide) ?_
  refine va_newa (atype := .int) (ty := .int) (a0 := (40, .inl (fun _ => 0))) (N' := 40) hx hb (ht _ m_125) rfl hK hP hD hS hA (fun _ => rfl) (by decide) (by decide) (by decide) (Nat.le_of_ble_eq_true rfl) (Nat.le_of_ble_eq_true rfl) dX12_init_370 (fun q87 ca88 H hK hP hD hS => ?_)
  refine W.widen (k := 44) (n := 2725) (by decide) (by decide) ?_
  refine va_putF (D := (dC, dI)) (ci := 12) (v := .ref q87) (ty := (.array .int)) (C := RX12) (T := TX12) (N := 75) hx hb ht inX12 tyX12 tyX12_ok nmX12 hown hK hP hD hS 0 rfl rfl 73 (by decide) (ht _ m_1212) (fun _ h9 => h9) rfl hin rfl (by decide +kernel) rfl rfl (Nat.le_of_ble_eq_true rfl) dX12_init_372 (fun H locs hP hD hS => ?_)
  have hK : va_K (dC, dI) classes [(ca2, .int), (ca4, .int), (ca6, .int), (ca8, .int), (ca10, .int), (ca12, .int), (ca14, .int), (ca16, .int), (ca18, .int), (ca20, .int), (ca22, .int), (ca24, .int), (ca26, .int), (ca28, .int), (ca30, .int), (ca32, .int), (ca34, .int), (ca36, .int), (ca38, .int), (ca40, .int), (ca42, .int), (ca44, .int), (ca46, .boolean), (ca48, .int), (ca50, .long), (ca52, .long), (ca54, .int), (ca56, .int), (ca58, .int), (ca60, .int), (ca62, .int), (ca64, .int), (ca66, .int), (ca68, .int), (ca70, .int), (ca72, .int), (ca74, .int), (ca76, .int), (ca78, .int), (ca80, .int), (ca82, .long), (ca84, .int), (ca86, .int), (ca88, .int)] s := hK
  obtain ⟨ws9, hP, hD, he9⟩ : ∃ ws9 : va_W, va_P (dC, dI) classes ws9 H ∧ va_D A ws9 ∧ ws9 = [(h, .inr (12, [.int 0, .int 0, .ref q1, .int 0, .ref q3, .ref q5, .ref q7, .ref q9, .ref q11, .ref q13, .ref q15, .ref q17, .ref q19, .int 0, .ref q21, .ref q23, .ref q25, .long 0, .long 0, .int 0, .int (-1), .int (-1), .int (-1), .int 0, .ref q27, .ref q29, .ref q31, .ref q33, .ref q35, .ref q37, .ref q39, .ref q41, .ref q43, .int 0, .int 0, .int 0, .int (-1), .int 0, .int 0, .ref q45, .ref q47, .int 0, .ref q49, .ref q51, .long 0, .long 0, .long 0, .long 0, .int 0, .ref q53, .ref q55, .ref q57, .ref q59, .ref q61, .ref q63, .ref q65, .ref q67, .int 0, .ref q69, .ref q71, .int 0, .int 0, .int 0, .ref q73, .ref q75, .int 0, .int 0, .int 0, .ref q77, .ref q79, .ref q81, .ref q83, .ref q85, .ref q87, .null])), (q1, .inl (ca2, 10, .inl (fun _ => 0))), (q3, .inl (ca4, 60, .inl (fun _ => 0))), (q5, .inl (ca6, 60, .inl (fun _ => 0))), (q7, .inl (ca8, 60, .inl (fun _ => 0))), (q9, .inl (ca10, 60, .inl (fun _ => 0))), (q11, .inl (ca12, 60, .inl (fun _ => 0))), (q13, .inl (ca14, 60, .inl (fun _ => 0))), (q15, .inl (ca16, 60, .inl (fun _ => 0))), (q17, .inl (ca18, 60, .inl (fun _ => 0))), (q19, .inl (ca20, 60, .inl (fun _ => 0))), (q21, .inl (ca22, 30, .inl (fun _ => 0))), (q23, .inl (ca24, 30, .inl (fun _ => 0))), (q25, .inl (ca26, 30, .inl (fun _ => 0))), (q27, .inl (ca28, 8, .inl (fun _ => 0))), (q29, .inl (ca30, 8, .inl (fun _ => 0))), (q31, .inl (ca32, 96, .inl (fun _ => 0))), (q33, .inl (ca34, 96, .inl (fun _ => 0))), (q35, .inl (ca36, 96, .inl (fun _ => 0))), (q37, .inl (ca38, 96, .inl (fun _ => 0))), (q39, .inl (ca40, 96, .inl (fun _ => 0))), (q41, .inl (ca42, 768, .inl (fun _ => 0))), (q43, .inl (ca44, 200, .inl (fun _ => 0))), (q45, .inl (ca46, 8, .inl (fun _ => 0))), (q47, .inl (ca48, 8, .inl (fun _ => 0))), (q49, .inl (ca50, 3, .inr (.inl (fun _ => 0)))), (q51, .inl (ca52, 3, .inr (.inl (fun _ => 0)))), (q53, .inl (ca54, 80, .inl (fun _ => 0))), (q55, .inl (ca56, 12, .inl (fun _ => 0))), (q57, .inl (ca58, 10, .inl (fun _ => 0))), (q59, .inl (ca60, 120, .inl (fun _ => 0))), (q61, .inl (ca62, 10, .inl (fun _ => 0))), (q63, .inl (ca64, 80, .inl (fun _ => 0))), (q65, .inl (ca66, 10, .inl (fun _ => 0))), (q67, .inl (ca68, 10, .inl (fun _ => 0))), (q69, .inl (ca70, 8, .inl (fun _ => 0))), (q71, .inl (ca72, 3, .inl (fun _ => 0))), (q73, .inl (ca74, 8, .inl (fun _ => 0))), (q75, .inl (ca76, 8, .inl (fun _ => 0))), (q77, .inl (ca78, 40, .inl (fun _ => 0))), (q79, .inl (ca80, 40, .inl (fun _ => 0))), (q81, .inl (ca82, 40, .inr (.inl (fun _ => 0)))), (q83, .inl (ca84, 40, .inl (fun _ => 0))), (q85, .inl (ca86, 40, .inl (fun _ => 0))), (q87, .inl (ca88, 40, .inl (fun _ => 0)))] := ⟨_, hP, hD, rfl⟩
  subst he9
  refine lv_aload_n hx hb dX12_init_375 rfl (lv_at hl 0 rfl) ?_
  refine lv_bipush (v := 40) hx hb dX12_init_376 (by decide) ?_
  refine va_newa (atype := .int) (ty := .int) (a0 := (40, .inl (fun _ => 0))) (N' := 40) hx hb (ht _ m_125) rfl hK hP hD hS hA (fun _ => rfl) (by decide) (by decide) (by decide) (Nat.le_of_ble_eq_true rfl) (Nat.le_of_ble_eq_true rfl) dX12_init_378 (fun q89 ca90 H hK hP hD hS => ?_)
  refine W.widen (k := 45) (n := 2765) (by decide) (by decide) ?_
  refine va_putF (D := (dC, dI)) (ci := 12) (v := .ref q89) (ty := (.array .int)) (C := RX12) (T := TX12) (N := 75) hx hb ht inX12 tyX12 tyX12_ok nmX12 hown hK hP hD hS 0 rfl rfl 74 (by decide) (ht _ m_1213) (fun _ h9 => h9) rfl hin rfl (by decide +kernel) rfl rfl (Nat.le_of_ble_eq_true rfl) dX12_init_380 (fun H locs hP hD hS => ?_)
  have hP9 := hP.sub (ws' := [(h, .inr (12, [.int 0, .int 0, .ref q1, .int 0, .ref q3, .ref q5, .ref q7, .ref q9, .ref q11, .ref q13, .ref q15, .ref q17, .ref q19, .int 0, .ref q21, .ref q23, .ref q25, .long 0, .long 0, .int 0, .int (-1), .int (-1), .int (-1), .int 0, .ref q27, .ref q29, .ref q31, .ref q33, .ref q35, .ref q37, .ref q39, .ref q41, .ref q43, .int 0, .int 0, .int 0, .int (-1), .int 0, .int 0, .ref q45, .ref q47, .int 0, .ref q49, .ref q51, .long 0, .long 0, .long 0, .long 0, .int 0, .ref q53, .ref q55, .ref q57, .ref q59, .ref q61, .ref q63, .ref q65, .ref q67, .int 0, .ref q69, .ref q71, .int 0, .int 0, .int 0, .ref q73, .ref q75, .int 0, .int 0, .int 0, .ref q77, .ref q79, .ref q81, .ref q83, .ref q85, .ref q87, .ref q89])), (q1, .inl (ca2, 10, .inl (fun _ => 0))), (q3, .inl (ca4, 60, .inl (fun _ => 0))), (q5, .inl (ca6, 60, .inl (fun _ => 0))), (q7, .inl (ca8, 60, .inl (fun _ => 0))), (q9, .inl (ca10, 60, .inl (fun _ => 0))), (q11, .inl (ca12, 60, .inl (fun _ => 0))), (q13, .inl (ca14, 60, .inl (fun _ => 0))), (q15, .inl (ca16, 60, .inl (fun _ => 0))), (q17, .inl (ca18, 60, .inl (fun _ => 0))), (q19, .inl (ca20, 60, .inl (fun _ => 0))), (q21, .inl (ca22, 30, .inl (fun _ => 0))), (q23, .inl (ca24, 30, .inl (fun _ => 0))), (q25, .inl (ca26, 30, .inl (fun _ => 0))), (q27, .inl (ca28, 8, .inl (fun _ => 0))), (q29, .inl (ca30, 8, .inl (fun _ => 0))), (q31, .inl (ca32, 96, .inl (fun _ => 0))), (q33, .inl (ca34, 96, .inl (fun _ => 0))), (q35, .inl (ca36, 96, .inl (fun _ => 0))), (q37, .inl (ca38, 96, .inl (fun _ => 0))), (q39, .inl (ca40, 96, .inl (fun _ => 0))), (q41, .inl (ca42, 768, .inl (fun _ => 0))), (q43, .inl (ca44, 200, .inl (fun _ => 0))), (q45, .inl (ca46, 8, .inl (fun _ => 0))), (q47, .inl (ca48, 8, .inl (fun _ => 0))), (q49, .inl (ca50, 3, .inr (.inl (fun _ => 0)))), (q51, .inl (ca52, 3, .inr (.inl (fun _ => 0)))), (q53, .inl (ca54, 80, .inl (fun _ => 0))), (q55, .inl (ca56, 12, .inl (fun _ => 0))), (q57, .inl (ca58, 10, .inl (fun _ => 0))), (q59, .inl (ca60, 120, .inl (fun _ => 0))), (q61, .inl (ca62, 10, .inl (fun _ => 0))), (q63, .inl (ca64, 80, .inl (fun _ => 0))), (q65, .inl (ca66, 10, .inl (fun _ => 0))), (q67, .inl (ca68, 10, .inl (fun _ => 0))), (q69, .inl (ca70, 8, .inl (fun _ => 0))), (q71, .inl (ca72, 3, .inl (fun _ => 0))), (q73, .inl (ca74, 8, .inl (fun _ => 0))), (q75, .inl (ca76, 8, .inl (fun _ => 0))), (q77, .inl (ca78, 40, .inl (fun _ => 0))), (q79, .inl (ca80, 40, .inl (fun _ => 0))), (q81, .inl (ca82, 40, .inr (.inl (fun _ => 0)))), (q83, .inl (ca84, 40, .inl (fun _ => 0))), (q85, .inl (ca86, 40, .inl (fun _ => 0))), (q87, .inl (ca88, 40, .inl (fun _ => 0))), (q89, .inl (ca90, 40, .inl (fun _ => 0)))]) [0, 1, 2, 3, 4, 5, 6, 7, 8, 9, 10, 11, 12, 13, 14, 15, 16, 17, 18, 19, 20, 21, 22, 23, 24, 25, 26, 27, 28, 29, 30, 31, 32, 33, 34, 35, 36, 37, 38, 39, 40, 41, 42, 43, 44, 45] rfl
  have hD9 := hD.sub (ws' := [(h, .inr (12, [.int 0, .int 0, .ref q1, .int 0, .ref q3, .ref q5, .ref q7, .ref q9, .ref q11, .ref q13, .ref q15, .ref q17, .ref q19, .int 0, .ref q21, .ref q23, .ref q25, .long 0, .long 0, .int 0, .int (-1), .int (-1), .int (-1), .int 0, .ref q27, .ref q29, .ref q31, .ref q33, .ref q35, .ref q37, .ref q39, .ref q41, .ref q43, .int 0, .int 0, .int 0, .int (-1), .int 0, .int 0, .ref q45, .ref q47, .int 0, .ref q49, .ref q51, .long 0, .long 0, .long 0, .long 0, .int 0, .ref q53, .ref q55, .ref q57, .ref q59, .ref q61, .ref q63, .ref q65, .ref q67, .int 0, .ref q69, .ref q71, .int 0, .int 0, .int 0, .ref q73, .ref q75, .int 0, .int 0, .int 0, .ref q77, .ref q79, .ref q81, .ref q83, .ref q85, .ref q87, .ref q89])), (q1, .inl (ca2, 10, .inl (fun _ => 0))), (q3, .inl (ca4, 60, .inl (fun _ => 0))), (q5, .inl (ca6, 60, .inl (fun _ => 0))), (q7, .inl (ca8, 60, .inl (fun _ => 0))), (q9, .inl (ca10, 60, .inl (fun _ => 0))), (q11, .inl (ca12, 60, .inl (fun _ => 0))), (q13, .inl (ca14, 60, .inl (fun _ => 0))), (q15, .inl (ca16, 60, .inl (fun _ => 0))), (q17, .inl (ca18, 60, .inl (fun _ => 0))), (q19, .inl (ca20, 60, .inl (fun _ => 0))), (q21, .inl (ca22, 30, .inl (fun _ => 0))), (q23, .inl (ca24, 30, .inl (fun _ => 0))), (q25, .inl (ca26, 30, .inl (fun _ => 0))), (q27, .inl (ca28, 8, .inl (fun _ => 0))), (q29, .inl (ca30, 8, .inl (fun _ => 0))), (q31, .inl (ca32, 96, .inl (fun _ => 0))), (q33, .inl (ca34, 96, .inl (fun _ => 0))), (q35, .inl (ca36, 96, .inl (fun _ => 0))), (q37, .inl (ca38, 96, .inl (fun _ => 0))), (q39, .inl (ca40, 96, .inl (fun _ => 0))), (q41, .inl (ca42, 768, .inl (fun _ => 0))), (q43, .inl (ca44, 200, .inl (fun _ => 0))), (q45, .inl (ca46, 8, .inl (fun _ => 0))), (q47, .inl (ca48, 8, .inl (fun _ => 0))), (q49, .inl (ca50, 3, .inr (.inl (fun _ => 0)))), (q51, .inl (ca52, 3, .inr (.inl (fun _ => 0)))), (q53, .inl (ca54, 80, .inl (fun _ => 0))), (q55, .inl (ca56, 12, .inl (fun _ => 0))), (q57, .inl (ca58, 10, .inl (fun _ => 0))), (q59, .inl (ca60, 120, .inl (fun _ => 0))), (q61, .inl (ca62, 10, .inl (fun _ => 0))), (q63, .inl (ca64, 80, .inl (fun _ => 0))), (q65, .inl (ca66, 10, .inl (fun _ => 0))), (q67, .inl (ca68, 10, .inl (fun _ => 0))), (q69, .inl (ca70, 8, .inl (fun _ => 0))), (q71, .inl (ca72, 3, .inl (fun _ => 0))), (q73, .inl (ca74, 8, .inl (fun _ => 0))), (q75, .inl (ca76, 8, .inl (fun _ => 0))), (q77, .inl (ca78, 40, .inl (fun _ => 0))), (q79, .inl (ca80, 40, .inl (fun _ => 0))), (q81, .inl (ca82, 40, .inr (.inl (fun _ => 0)))), (q83, .inl (ca84, 40, .inl (fun _ => 0))), (q85, .inl (ca86, 40, .inl (fun _ => 0))), (q87, .inl (ca88, 40, .inl (fun _ => 0))), (q89, .inl (ca90, 40, .inl (fun _ => 0)))]) [0, 1, 2, 3, 4, 5, 6, 7, 8, 9, 10, 11, 12, 13, 14, 15, 16, 17, 18, 19, 20, 21, 22, 23, 24, 25, 26, 27, 28, 29, 30, 31, 32, 33, 34, 35, 36, 37, 38, 39, 40, 41, 42, 43, 44, 45] (by decide) rfl
  have hK9 := hK.sub (tys' := [(ca2, .int), (ca4, .int), (ca6, .int), (ca8, .int), (ca10, .int), (ca12, .int), (ca14, .int), (ca16, .int), (ca18, .int), (ca20, .int), (ca22, .int), (ca24, .int), (ca26, .int), (ca28, .int), (ca30, .int), (ca32, .int), (ca34, .int), (ca36, .int), (ca38, .int), (ca40, .int), (ca42, .int), (ca44, .int), (ca46, .boolean), (ca48, .int), (ca50, .long), (ca52, .long), (ca54, .int), (ca56, .int), (ca58, .int), (ca60, .int), (ca62, .int), (ca64, .int), (ca66, .int), (ca68, .int), (ca70, .int), (ca72, .int), (ca74, .int), (ca76, .int), (ca78, .int), (ca80, .int), (ca82, .long), (ca84, .int), (ca86, .int), (ca88, .int), (ca90, .int)]) [0, 1, 2, 3, 4, 5, 6, 7, 8, 9, 10, 11, 12, 13, 14, 15, 16, 17, 18, 19, 20, 21, 22, 23, 24, 25, 26, 27, 28, 29, 30, 31, 32, 33, 34, 35, 36, 37, 38, 39, 40, 41, 42, 43, 44] rfl
  obtain ⟨u9, hu9⟩ : ∃ u : (Nat → Nat → Nat) × (Nat → Nat → ClassId), u = ((fun i j => (([[], [], [], [], [], [], [], [], [], [], [], [], [0, 0, q1, 0, q3, q5, q7, q9, q11, q13, q15, q17, q19, 0, q21, q23, q25, 0, 0, 0, 0, 0, 0, 0, q27, q29, q31, q33, q35, q37, q39, q41, q43, 0, 0, 0, 0, 0, 0, q45, q47, 0, q49, q51, 0, 0, 0, 0, 0, q53, q55, q57, q59, q61, q63, q65, q67, 0, q69, q71, 0, 0, 0, q73, q75, 0, 0, 0, q77, q79, q81, q83, q85, q87, q89]] : List (List _)).getD i []).getD j 0), (fun i j => (([[], [], [], [], [], [], [], [], [], [], [], [], [ca2, ca2, ca2, ca2, ca4, ca6, ca8, ca10, ca12, ca14, ca16, ca18, ca20, ca2, ca22, ca24, ca26, ca2, ca2, ca2, ca2, ca2, ca2, ca2, ca28, ca30, ca32, ca34, ca36, ca38, ca40, ca42, ca44, ca2, ca2, ca2, ca2, ca2, ca2, ca46, ca48, ca2, ca50, ca52, ca2, ca2, ca2, ca2, ca2, ca54, ca56, ca58, ca60, ca62, ca64, ca66, ca68, ca2, ca70, ca72, ca2, ca2, ca2, ca74, ca76, ca2, ca2, ca2, ca78, ca80, ca82, ca84, ca86, ca88, ca90]] : List (List _)).getD i []).getD j ca2)) := ⟨_, rfl⟩
  have hB9 : ∀ t : State, t.heap = H → s.WarmedH t.vm → (fun u t => va_P (dC, dI) classes [(h, .inr (12, [.int 0, .int 0, .ref (u.1 12 2), .int 0, .ref (u.1 12 4), .ref (u.1 12 5), .ref (u.1 12 6), .ref (u.1 12 7), .ref (u.1 12 8), .ref (u.1 12 9), .ref (u.1 12 10), .ref (u.1 12 11), .ref (u.1 12 12), .int 0, .ref (u.1 12 14), .ref (u.1 12 15), .ref (u.1 12 16), .long 0, .long 0, .int 0, .int (-1), .int (-1), .int (-1), .int 0, .ref (u.1 12 24), .ref (u.1 12 25), .ref (u.1 12 26), .ref (u.1 12 27), .ref (u.1 12 28), .ref (u.1 12 29), .ref (u.1 12 30), .ref (u.1 12 31), .ref (u.1 12 32), .int 0, .int 0, .int 0, .int (-1), .int 0, .int 0, .ref (u.1 12 39), .ref (u.1 12 40), .int 0, .ref (u.1 12 42), .ref (u.1 12 43), .long 0, .long 0, .long 0, .long 0, .int 0, .ref (u.1 12 49), .ref (u.1 12 50), .ref (u.1 12 51), .ref (u.1 12 52), .ref (u.1 12 53), .ref (u.1 12 54), .ref (u.1 12 55), .ref (u.1 12 56), .int 0, .ref (u.1 12 58), .ref (u.1 12 59), .int 0, .int 0, .int 0, .ref (u.1 12 63), .ref (u.1 12 64), .int 0, .int 0, .int 0, .ref (u.1 12 68), .ref (u.1 12 69), .ref (u.1 12 70), .ref (u.1 12 71), .ref (u.1 12 72), .ref (u.1 12 73), .ref (u.1 12 74)])), ((u.1 12 2), .inl ((u.2 12 2), 10, .inl (fun _ => 0))), ((u.1 12 4), .inl ((u.2 12 4), 60, .inl (fun _ => 0))), ((u.1 12 5), .inl ((u.2 12 5), 60, .inl (fun _ => 0))), ((u.1 12 6), .inl ((u.2 12 6), 60, .inl (fun _ => 0))), ((u.1 12 7), .inl ((u.2 12 7), 60, .inl (fun _ => 0))), ((u.1 12 8), .inl ((u.2 12 8), 60, .inl (fun _ => 0))), ((u.1 12 9), .inl ((u.2 12 9), 60, .inl (fun _ => 0))), ((u.1 12 10), .inl ((u.2 12 10), 60, .inl (fun _ => 0))), ((u.1 12 11), .inl ((u.2 12 11), 60, .inl (fun _ => 0))), ((u.1 12 12), .inl ((u.2 12 12), 60, .inl (fun _ => 0))), ((u.1 12 14), .inl ((u.2 12 14), 30, .inl (fun _ => 0))), ((u.1 12 15), .inl ((u.2 12 15), 30, .inl (fun _ => 0))), ((u.1 12 16), .inl ((u.2 12 16), 30, .inl (fun _ => 0))), ((u.1 12 24), .inl ((u.2 12 24), 8, .inl (fun _ => 0))), ((u.1 12 25), .inl ((u.2 12 25), 8, .inl (fun _ => 0))), ((u.1 12 26), .inl ((u.2 12 26), 96, .inl (fun _ => 0))), ((u.1 12 27), .inl ((u.2 12 27), 96, .inl (fun _ => 0))), ((u.1 12 28), .inl ((u.2 12 28), 96, .inl (fun _ => 0))), ((u.1 12 29), .inl ((u.2 12 29), 96, .inl (fun _ => 0))), ((u.1 12 30), .inl ((u.2 12 30), 96, .inl (fun _ => 0))), ((u.1 12 31), .inl ((u.2 12 31), 768, .inl (fun _ => 0))), ((u.1 12 32), .inl ((u.2 12 32), 200, .inl (fun _ => 0))), ((u.1 12 39), .inl ((u.2 12 39), 8, .inl (fun _ => 0))), ((u.1 12 40), .inl ((u.2 12 40), 8, .inl (fun _ => 0))), ((u.1 12 42), .inl ((u.2 12 42), 3, .inr (.inl (fun _ => 0)))), ((u.1 12 43), .inl ((u.2 12 43), 3, .inr (.inl (fun _ => 0)))), ((u.1 12 49), .inl ((u.2 12 49), 80, .inl (fun _ => 0))), ((u.1 12 50), .inl ((u.2 12 50), 12, .inl (fun _ => 0))), ((u.1 12 51), .inl ((u.2 12 51), 10, .inl (fun _ => 0))), ((u.1 12 52), .inl ((u.2 12 52), 120, .inl (fun _ => 0))), ((u.1 12 53), .inl ((u.2 12 53), 10, .inl (fun _ => 0))), ((u.1 12 54), .inl ((u.2 12 54), 80, .inl (fun _ => 0))), ((u.1 12 55), .inl ((u.2 12 55), 10, .inl (fun _ => 0))), ((u.1 12 56), .inl ((u.2 12 56), 10, .inl (fun _ => 0))), ((u.1 12 58), .inl ((u.2 12 58), 8, .inl (fun _ => 0))), ((u.1 12 59), .inl ((u.2 12 59), 3, .inl (fun _ => 0))), ((u.1 12 63), .inl ((u.2 12 63), 8, .inl (fun _ => 0))), ((u.1 12 64), .inl ((u.2 12 64), 8, .inl (fun _ => 0))), ((u.1 12 68), .inl ((u.2 12 68), 40, .inl (fun _ => 0))), ((u.1 12 69), .inl ((u.2 12 69), 40, .inl (fun _ => 0))), ((u.1 12 70), .inl ((u.2 12 70), 40, .inr (.inl (fun _ => 0)))), ((u.1 12 71), .inl ((u.2 12 71), 40, .inl (fun _ => 0))), ((u.1 12 72), .inl ((u.2 12 72), 40, .inl (fun _ => 0))), ((u.1 12 73), .inl ((u.2 12 73), 40, .inl (fun _ => 0))), ((u.1 12 74), .inl ((u.2 12 74), 40, .inl (fun _ => 0)))] t.heap ∧ va_K (dC, dI) classes [((u.2 12 2), .int), ((u.2 12 4), .int), ((u.2 12 5), .int), ((u.2 12 6), .int), ((u.2 12 7), .int), ((u.2 12 8), .int), ((u.2 12 9), .int), ((u.2 12 10), .int), ((u.2 12 11), .int), ((u.2 12 12), .int), ((u.2 12 14), .int), ((u.2 12 15), .int), ((u.2 12 16), .int), ((u.2 12 24), .int), ((u.2 12 25), .int), ((u.2 12 26), .int), ((u.2 12 27), .int), ((u.2 12 28), .int), ((u.2 12 29), .int), ((u.2 12 30), .int), ((u.2 12 31), .int), ((u.2 12 32), .int), ((u.2 12 39), .boolean), ((u.2 12 40), .int), ((u.2 12 42), .long), ((u.2 12 43), .long), ((u.2 12 49), .int), ((u.2 12 50), .int), ((u.2 12 51), .int), ((u.2 12 52), .int), ((u.2 12 53), .int), ((u.2 12 54), .int), ((u.2 12 55), .int), ((u.2 12 56), .int), ((u.2 12 58), .int), ((u.2 12 59), .int), ((u.2 12 63), .int), ((u.2 12 64), .int), ((u.2 12 68), .int), ((u.2 12 69), .int), ((u.2 12 70), .long), ((u.2 12 71), .int), ((u.2 12 72), .int), ((u.2 12 73), .int), ((u.2 12 74), .int)] t ∧ va_D A [(h, .inr (12, [.int 0, .int 0, .ref (u.1 12 2), .int 0, .ref (u.1 12 4), .ref (u.1 12 5), .ref (u.1 12 6), .ref (u.1 12 7), .ref (u.1 12 8), .ref (u.1 12 9), .ref (u.1 12 10), .ref (u.1 12 11), .ref (u.1 12 12), .int 0, .ref (u.1 12 14), .ref (u.1 12 15), .ref (u.1 12 16), .long 0, .long 0, .int 0, .int (-1), .int (-1), .int (-1), .int 0, .ref (u.1 12 24), .ref (u.1 12 25), .ref (u.1 12 26), .ref (u.1 12 27), .ref (u.1 12 28), .ref (u.1 12 29), .ref (u.1 12 30), .ref (u.1 12 31), .ref (u.1 12 32), .int 0, .int 0, .int 0, .int (-1), .int 0, .int 0, .ref (u.1 12 39), .ref (u.1 12 40), .int 0, .ref (u.1 12 42), .ref (u.1 12 43), .long 0, .long 0, .long 0, .long 0, .int 0, .ref (u.1 12 49), .ref (u.1 12 50), .ref (u.1 12 51), .ref (u.1 12 52), .ref (u.1 12 53), .ref (u.1 12 54), .ref (u.1 12 55), .ref (u.1 12 56), .int 0, .ref (u.1 12 58), .ref (u.1 12 59), .int 0, .int 0, .int 0, .ref (u.1 12 63), .ref (u.1 12 64), .int 0, .int 0, .int 0, .ref (u.1 12 68), .ref (u.1 12 69), .ref (u.1 12 70), .ref (u.1 12 71), .ref (u.1 12 72), .ref (u.1 12 73), .ref (u.1 12 74)])), ((u.1 12 2), .inl ((u.2 12 2), 10, .inl (fun _ => 0))), ((u.1 12 4), .inl ((u.2 12 4), 60, .inl (fun _ => 0))), ((u.1 12 5), .inl ((u.2 12 5), 60, .inl (fun _ => 0))), ((u.1 12 6), .inl ((u.2 12 6), 60, .inl (fun _ => 0))), ((u.1 12 7), .inl ((u.2 12 7), 60, .inl (fun _ => 0))), ((u.1 12 8), .inl ((u.2 12 8), 60, .inl (fun _ => 0))), ((u.1 12 9), .inl ((u.2 12 9), 60, .inl (fun _ => 0))), ((u.1 12 10), .inl ((u.2 12 10), 60, .inl (fun _ => 0))), ((u.1 12 11), .inl ((u.2 12 11), 60, .inl (fun _ => 0))), ((u.1 12 12), .inl ((u.2 12 12), 60, .inl (fun _ => 0))), ((u.1 12 14), .inl ((u.2 12 14), 30, .inl (fun _ => 0))), ((u.1 12 15), .inl ((u.2 12 15), 30, .inl (fun _ => 0))), ((u.1 12 16), .inl ((u.2 12 16), 30, .inl (fun _ => 0))), ((u.1 12 24), .inl ((u.2 12 24), 8, .inl (fun _ => 0))), ((u.1 12 25), .inl ((u.2 12 25), 8, .inl (fun _ => 0))), ((u.1 12 26), .inl ((u.2 12 26), 96, .inl (fun _ => 0))), ((u.1 12 27), .inl ((u.2 12 27), 96, .inl (fun _ => 0))), ((u.1 12 28), .inl ((u.2 12 28), 96, .inl (fun _ => 0))), ((u.1 12 29), .inl ((u.2 12 29), 96, .inl (fun _ => 0))), ((u.1 12 30), .inl ((u.2 12 30), 96, .inl (fun _ => 0))), ((u.1 12 31), .inl ((u.2 12 31), 768, .inl (fun _ => 0))), ((u.1 12 32), .inl ((u.2 12 32), 200, .inl (fun _ => 0))), ((u.1 12 39), .inl ((u.2 12 39), 8, .inl (fun _ => 0))), ((u.1 12 40), .inl ((u.2 12 40), 8, .inl (fun _ => 0))), ((u.1 12 42), .inl ((u.2 12 42), 3, .inr (.inl (fun _ => 0)))), ((u.1 12 43), .inl ((u.2 12 43), 3, .inr (.inl (fun _ => 0)))), ((u.1 12 49), .inl ((u.2 12 49), 80, .inl (fun _ => 0))), ((u.1 12 50), .inl ((u.2 12 50), 12, .inl (fun _ => 0))), ((u.1 12 51), .inl ((u.2 12 51), 10, .inl (fun _ => 0))), ((u.1 12 52), .inl ((u.2 12 52), 120, .inl (fun _ => 0))), ((u.1 12 53), .inl ((u.2 12 53), 10, .inl (fun _ => 0))), ((u.1 12 54), .inl ((u.2 12 54), 80, .inl (fun _ => 0))), ((u.1 12 55), .inl ((u.2 12 55), 10, .inl (fun _ => 0))), ((u.1 12 56), .inl ((u.2 12 56), 10, .inl (fun _ => 0))), ((u.1 12 58), .inl ((u.2 12 58), 8, .inl (fun _ => 0))), ((u.1 12 59), .inl ((u.2 12 59), 3, .inl (fun _ => 0))), ((u.1 12 63), .inl ((u.2 12 63), 8, .inl (fun _ => 0))), ((u.1 12 64), .inl ((u.2 12 64), 8, .inl (fun _ => 0))), ((u.1 12 68), .inl ((u.2 12 68), 40, .inl (fun _ => 0))), ((u.1 12 69), .inl ((u.2 12 69), 40, .inl (fun _ => 0))), ((u.1 12 70), .inl ((u.2 12 70), 40, .inr (.inl (fun _ => 0)))), ((u.1 12 71), .inl ((u.2 12 71), 40, .inl (fun _ => 0))), ((u.1 12 72), .inl ((u.2 12 72), 40, .inl (fun _ => 0))), ((u.1 12 73), .inl ((u.2 12 73), 40, .inl (fun _ => 0))), ((u.1 12 74), .inl ((u.2 12 74), 40, .inl (fun _ => 0)))]) u9 t := by
    intro t ht9 hW
    rw [hu9]
    exact ⟨by rw [ht9]; exact hP9, va_K.moved hW.alike hK9, hD9⟩
  exact W.vret hx hb hr (fun t ht9 hW => ⟨⟨u9, rfl, trivial, hB9 t ht9 hW⟩, hS.F ht9⟩) hS.2.2 dX12_init_383
/-! ===== rd0 ===== -/
def w_let (t : Nat → Int) (s e : Int) : Prop := e - s = 3 ∧ t (s.toNat + 0) = 108 ∧ t (s.toNat + 1) = 101 ∧ t (s.toNat + 2) = 116
def w_take (t : Nat → Int) (s e : Int) : Prop := e - s = 4 ∧ t (s.toNat + 0) = 116 ∧ t (s.toNat + 1) = 97 ∧ t (s.toNat + 2) = 107 ∧ t (s.toNat + 3) = 101
def w_name (t : Nat → Int) (s e : Int) : Prop := e - s = 4 ∧ t (s.toNat + 0) = 110 ∧ t (s.toNat + 1) = 97 ∧ t (s.toNat + 2) = 109 ∧ t (s.toNat + 3) = 101
def w_strike (t : Nat → Int) (s e : Int) : Prop := e - s = 6 ∧ t (s.toNat + 0) = 115 ∧ t (s.toNat + 1) = 116 ∧ t (s.toNat + 2) = 114 ∧ t (s.toNat + 3) = 105 ∧ t (s.toNat + 4) = 107 ∧ t (s.toNat + 5) = 101
def w_water (t : Nat → Int) (s e : Int) : Prop := e - s = 5 ∧ t (s.toNat + 0) = 119 ∧ t (s.toNat + 1) = 97 ∧ t (s.toNat + 2) = 116 ∧ t (s.toNat + 3) = 101 ∧ t (s.toNat + 4) = 114
def w_skeins (t : Nat → Int) (s e : Int) : Prop := e - s = 6 ∧ t (s.toNat + 0) = 115 ∧ t (s.toNat + 1) = 107 ∧ t (s.toNat + 2) = 101 ∧ t (s.toNat + 3) = 105 ∧ t (s.toNat + 4) = 110 ∧ t (s.toNat + 5) = 115
def w_part (t : Nat → Int) (s e : Int) : Prop := e - s = 4 ∧ t (s.toNat + 0) = 112 ∧ t (s.toNat + 1) = 97 ∧ t (s.toNat + 2) = 114 ∧ t (s.toNat + 3) = 116
def w_looks (t : Nat → Int) (s e : Int) : Prop := e - s = 5 ∧ t (s.toNat + 0) = 108 ∧ t (s.toNat + 1) = 111 ∧ t (s.toNat + 2) = 111 ∧ t (s.toNat + 3) = 107 ∧ t (s.toNat + 4) = 115
def w_fee (t : Nat → Int) (s e : Int) : Prop := e - s = 3 ∧ t (s.toNat + 0) = 102 ∧ t (s.toNat + 1) = 101 ∧ t (s.toNat + 2) = 101
def w_mean (t : Nat → Int) (s e : Int) : Prop := e - s = 4 ∧ t (s.toNat + 0) = 109 ∧ t (s.toNat + 1) = 101 ∧ t (s.toNat + 2) = 97 ∧ t (s.toNat + 3) = 110
def w_least (t : Nat → Int) (s e : Int) : Prop := e - s = 5 ∧ t (s.toNat + 0) = 108 ∧ t (s.toNat + 1) = 101 ∧ t (s.toNat + 2) = 97 ∧ t (s.toNat + 3) = 115 ∧ t (s.toNat + 4) = 116
def w_middle (t : Nat → Int) (s e : Int) : Prop := e - s = 6 ∧ t (s.toNat + 0) = 109 ∧ t (s.toNat + 1) = 105 ∧ t (s.toNat + 2) = 100 ∧ t (s.toNat + 3) = 100 ∧ t (s.toNat + 4) = 108 ∧ t (s.toNat + 5) = 101
def w_to (t : Nat → Int) (s e : Int) : Prop := e - s = 2 ∧ t (s.toNat + 0) = 116 ∧ t (s.toNat + 1) = 111
noncomputable def kwK (t : Nat → Int) (s e : Int) : Int := @ite Int (w_let t s e) (Classical.propDecidable _) 0 (@ite Int (w_take t s e) (Classical.propDecidable _) 1 (@ite Int (w_name t s e) (Classical.propDecidable _) 2 (@ite Int (w_strike t s e) (Classical.propDecidable _) 3 (-1))))
theorem kwK_b (t : Nat → Int) (s e : Int) : -1 ≤ kwK t s e ∧ kwK t s e ≤ 3 := by
  unfold kwK
  split
  · exact ⟨by decide, by decide⟩
  · skip
    split
    · exact ⟨by decide, by decide⟩
    · skip
      split
      · exact ⟨by decide, by decide⟩
      · skip
        split
        · exact ⟨by decide, by decide⟩
        · exact ⟨by decide, by decide⟩
noncomputable def kwN (t : Nat → Int) (s e : Int) : Int := @ite Int (w_water t s e) (Classical.propDecidable _) 0 (@ite Int (w_skeins t s e) (Classical.propDecidable _) 1 (@ite Int (w_part t s e) (Classical.propDecidable _) 2 (@ite Int (w_looks t s e) (Classical.propDecidable _) 3 (@ite Int (w_fee t s e) (Classical.propDecidable _) 4 (-1)))))
theorem kwN_b (t : Nat → Int) (s e : Int) : -1 ≤ kwN t s e ∧ kwN t s e ≤ 4 := by
  unfold kwN
  split
  · exact ⟨by decide, by decide⟩
  · skip
    split
    · exact ⟨by decide, by decide⟩
    · skip
      split
      · exact ⟨by decide, by decide⟩
      · skip
        split
        · exact ⟨by decide, by decide⟩
        · skip
          split
          · exact ⟨by decide, by decide⟩
          · exact ⟨by decide, by decide⟩
noncomputable def kwW (t : Nat → Int) (s e : Int) : Int := @ite Int (w_mean t s e) (Classical.propDecidable _) 0 (@ite Int (w_least t s e) (Classical.propDecidable _) 1 (@ite Int (w_middle t s e) (Classical.propDecidable _) 2 (-1)))
theorem kwW_b (t : Nat → Int) (s e : Int) : -1 ≤ kwW t s e ∧ kwW t s e ≤ 2 := by
  unfold kwW
  split
  · exact ⟨by decide, by decide⟩
  · skip
    split
    · exact ⟨by decide, by decide⟩
    · skip
      split
      · exact ⟨by decide, by decide⟩
      · exact ⟨by decide, by decide⟩

/-- blanks are passed over, from a to b -/
def Sk (t : Nat → Int) (n a b : Int) : Prop := a ≤ b ∧ (∀ j : Nat, a ≤ (j : Int) → (j : Int) < b → (j : Int) < n ∧ t j = 32) ∧ ¬ (b < n ∧ t b.toNat = 32)
/-- a run of signs in bounds, from a to b -/
def Rn (t : Nat → Int) (n lo hi a b : Int) : Prop := a ≤ b ∧ (∀ j : Nat, a ≤ (j : Int) → (j : Int) < b → (j : Int) < n ∧ lo ≤ t j ∧ t j ≤ hi) ∧ ¬ (b < n ∧ lo ≤ t b.toNat ∧ t b.toNat ≤ hi)
theorem Sk_un {t : Nat → Int} {n a b b' : Int} (h0 : 0 ≤ a) (h : Sk t n a b) (k : Sk t n a b') : b = b' := by
  obtain ⟨h1, h2, h3⟩ := h
  obtain ⟨k1, k2, k3⟩ := k
  by_cases q : b < b'
  · have z := k2 b.toNat (by omega) (by omega)
    exact absurd (⟨by omega, z.2⟩ : b < n ∧ t b.toNat = 32) h3
  · by_cases q' : b' < b
    · have z := h2 b'.toNat (by omega) (by omega)
      exact absurd (⟨by omega, z.2⟩ : b' < n ∧ t b'.toNat = 32) k3
    · omega
theorem Rn_un {t : Nat → Int} {n lo hi a b b' : Int} (h0 : 0 ≤ a) (h : Rn t n lo hi a b) (k : Rn t n lo hi a b') : b = b' := by
  obtain ⟨h1, h2, h3⟩ := h
  obtain ⟨k1, k2, k3⟩ := k
  by_cases q : b < b'
  · have z := k2 b.toNat (by omega) (by omega)
    exact absurd (⟨by omega, z.2⟩ : b < n ∧ lo ≤ t b.toNat ∧ t b.toNat ≤ hi) h3
  · by_cases q' : b' < b
    · have z := h2 b'.toNat (by omega) (by omega)
      exact absurd (⟨by omega, z.2⟩ : b' < n ∧ lo ≤ t b'.toNat ∧ t b'.toNat ≤ hi) k3
    · omega
theorem Sk_id {t : Nat → Int} {n a b : Int} (h : Sk t n a b) : Sk t n b b := ⟨Int.le_refl _, fun j h1 h2 => absurd h1 (by omega), h.2.2⟩
/-- what a run of figures is worth -/
def dv (t : Nat → Int) (s : Nat) : Nat → Int
  | 0 => 0
  | k + 1 => 10 * dv t s k + (t (s + k) - 48)
theorem dv_b {t : Nat → Int} {s : Nat} : ∀ k : Nat, (∀ j : Nat, j < k → 48 ≤ t (s + j) ∧ t (s + j) ≤ 57) → 0 ≤ dv t s k ∧ (k ≤ 0 → dv t s k ≤ 0) ∧ (k ≤ 1 → dv t s k ≤ 9) ∧ (k ≤ 2 → dv t s k ≤ 99) ∧ (k ≤ 3 → dv t s k ≤ 999) ∧ (k ≤ 4 → dv t s k ≤ 9999)
  | 0, _ => by
    have e : dv t s 0 = 0 := rfl
    rw [e]; exact ⟨by decide, fun _ => by decide, fun _ => by decide, fun _ => by decide, fun _ => by decide, fun _ => by decide⟩
  | k + 1, h => by
    have q := dv_b k (fun j hj => h j (by omega))
    have z := h k (by omega)
    have e : dv t s (k + 1) = 10 * dv t s k + (t (s + k) - 48) := rfl
    rw [e]
    exact ⟨by omega, fun _ => by omega, fun _ => by omega, fun _ => by omega, fun _ => by omega, fun _ => by omega⟩
/-- of a run of figures -/
theorem dv_r {t : Nat → Int} {n s e k : Int} (h0 : 0 ≤ s) (h : ∀ j : Nat, s ≤ (j : Int) → (j : Int) < e → (j : Int) < n ∧ 48 ≤ t j ∧ t j ≤ 57) (hk : s ≤ k) (hk2 : k ≤ e) : 0 ≤ dv t s.toNat (k - s).toNat ∧ (k - s ≤ 0 → dv t s.toNat (k - s).toNat ≤ 0) ∧ (k - s ≤ 1 → dv t s.toNat (k - s).toNat ≤ 9) ∧ (k - s ≤ 2 → dv t s.toNat (k - s).toNat ≤ 99) ∧ (k - s ≤ 3 → dv t s.toNat (k - s).toNat ≤ 999) ∧ (k - s ≤ 4 → dv t s.toNat (k - s).toNat ≤ 9999) := by
  have q := dv_b (t := t) (s := s.toNat) (k - s).toNat (fun j hj => (h (s.toNat + j) (by omega) (by omega)).2)
  exact ⟨q.1, fun h => q.2.1 (by omega), fun h => q.2.2.1 (by omega), fun h => q.2.2.2.1 (by omega), fun h => q.2.2.2.2.1 (by omega), fun h => q.2.2.2.2.2 (by omega)⟩
theorem dv_s {t : Nat → Int} {s k k' x : Int} (h0 : 0 ≤ s) (hk : s ≤ k) (h1 : k' = k + 1) (hx : x = t k.toNat) : dv t s.toNat (k' - s).toNat = 10 * dv t s.toNat (k - s).toNat + (x - 48) := by
  have e : (k' - s).toNat = (k - s).toNat + 1 := by omega
  have e2 : s.toNat + (k - s).toNat = k.toNat := by omega
  rw [e, hx]
  show 10 * dv t s.toNat (k - s).toNat + (t (s.toNat + (k - s).toNat) - 48) = _
  rw [e2]
/-- a number in bounds is read at a: f is the fault (0: none), p its place, v the number, b the place behind it -/
def Num (t : Nat → Int) (n lo hi a f p v b : Int) : Prop := ∃ s e : Int, Sk t n a s ∧ Rn t n 48 57 s e ∧ ((e = s ∧ f = 1 ∧ p = s) ∨ (s < e ∧ ¬ (e - s ≤ 4 ∧ lo ≤ dv t s.toNat (e - s).toNat ∧ dv t s.toNat (e - s).toNat ≤ hi) ∧ f = 2 ∧ p = s) ∨ (s < e ∧ (e - s ≤ 4 ∧ lo ≤ dv t s.toNat (e - s).toNat ∧ dv t s.toNat (e - s).toNat ≤ hi) ∧ f = 0 ∧ v = dv t s.toNat (e - s).toNat ∧ b = e))
theorem Num_un {t : Nat → Int} {n lo hi a f p v b f' p' v' b' : Int} (h0 : 0 ≤ a) (h : Num t n lo hi a f p v b) (k : Num t n lo hi a f' p' v' b') : f = f' ∧ (f = 0 ∨ p = p') ∧ (f ≠ 0 ∨ (v = v' ∧ b = b' ∧ a ≤ b)) := by
  obtain ⟨s, e, h1, h2, h3⟩ := h
  obtain ⟨s', e', k1, k2, k3⟩ := k
  have es := Sk_un h0 h1 k1
  subst es
  have hs := h1.1
  have ee := Rn_un (by omega) h2 k2
  subst ee
  have he := h2.1
  rcases h3 with ⟨a1, a2, a3⟩ | ⟨a1, a2, a3, a4⟩ | ⟨a1, a2, a3, a4, a5⟩
  · rcases k3 with ⟨c1, c2, c3⟩ | ⟨c1, c2, c3, c4⟩ | ⟨c1, c2, c3, c4, c5⟩
    · exact ⟨by omega, Or.inr (by omega), Or.inl (by omega)⟩
    · omega
    · omega
  · rcases k3 with ⟨c1, c2, c3⟩ | ⟨c1, c2, c3, c4⟩ | ⟨c1, c2, c3, c4, c5⟩
    · omega
    · exact ⟨by omega, Or.inr (by omega), Or.inl (by omega)⟩
    · exact absurd c2 a2
  · rcases k3 with ⟨c1, c2, c3⟩ | ⟨c1, c2, c3, c4⟩ | ⟨c1, c2, c3, c4, c5⟩
    · omega
    · exact absurd a2 c2
    · exact ⟨by omega, Or.inl (by omega), Or.inr ⟨by omega, by omega, by omega⟩⟩
/-- a number is the same where the blanks before it are passed over first -/
theorem Num_sk {t : Nat → Int} {n lo hi a s f p v b : Int} (h0 : 0 ≤ a) (hs : Sk t n a s) (h : Num t n lo hi s f p v b) : Num t n lo hi a f p v b := by
  obtain ⟨s', e, h1, h2, h3⟩ := h
  have es := Sk_un (by have := hs.1; omega) (Sk_id hs) h1
  subst es
  exact ⟨s, e, hs, h2, h3⟩
/-- a semicolon is read at a -/
def StpR (t : Nat → Int) (n a f p b : Int) : Prop := ∃ s : Int, Sk t n a s ∧ ((¬ (s < n ∧ t s.toNat = 59) ∧ f = 1 ∧ p = s) ∨ ((s < n ∧ t s.toNat = 59) ∧ f = 0 ∧ b = s + 1))
theorem StpR_un {t : Nat → Int} {n a f p b f' p' b' : Int} (h0 : 0 ≤ a) (h : StpR t n a f p b) (k : StpR t n a f' p' b') : f = f' ∧ (f = 0 ∨ p = p') ∧ (f ≠ 0 ∨ (b = b' ∧ a ≤ b)) := by
  obtain ⟨s, h1, h3⟩ := h
  obtain ⟨s', k1, k3⟩ := k
  have es := Sk_un h0 h1 k1
  subst es
  have hs := h1.1
  rcases h3 with ⟨a1, a2, a3⟩ | ⟨a1, a2, a3⟩
  · rcases k3 with ⟨c1, c2, c3⟩ | ⟨c1, c2, c3⟩
    · exact ⟨by omega, Or.inr (by omega), Or.inl (by omega)⟩
    · exact absurd c1 a1
  · rcases k3 with ⟨c1, c2, c3⟩ | ⟨c1, c2, c3⟩
    · exact absurd a1 c1
    · exact ⟨by omega, Or.inl (by omega), Or.inr ⟨by omega, by omega⟩⟩
def loN (r : Int) : Int := if r = 1 ∨ r = 3 then 1 else 0
def hiN (r : Int) : Int := if r = 0 then 300 else if r = 1 then 9 else if r = 2 then 200 else if r = 3 then 2 else 999
/-- the four clauses, each behind its first word, at a; kd, v1, v2, wd: what it says where it is good -/
def LetR (t : Nat → Int) (n a f p b kd v1 : Int) : Prop := ∃ s e : Int, Sk t n a s ∧ Rn t n 97 122 s e ∧ ((kwN t s e = -1 ∧ f = 1 ∧ p = s) ∨ (0 ≤ kwN t s e ∧ ∃ f1 p1 b1 : Int, Num t n (loN (kwN t s e)) (hiN (kwN t s e)) e f1 p1 v1 b1 ∧ ((f1 ≠ 0 ∧ f = f1 ∧ p = p1) ∨ (f1 = 0 ∧ kd = kwN t s e ∧ StpR t n b1 f p b))))
def TakR (t : Nat → Int) (n a f p b kd v1 : Int) : Prop := ∃ s e : Int, Sk t n a s ∧ Rn t n 97 122 s e ∧ ((kwW t s e = -1 ∧ f = 1 ∧ p = s) ∨ (0 ≤ kwW t s e ∧ kd = 5 ∧ v1 = kwW t s e ∧ StpR t n e f p b))
def StrR (t : Nat → Int) (n R a f p b kd v1 : Int) : Prop := ∃ f1 p1 b1 : Int, Num t n 0 9999 a f1 p1 v1 b1 ∧ ((f1 ≠ 0 ∧ f = f1 ∧ p = p1) ∨ (f1 = 0 ∧ R ≤ v1 ∧ f = 3 ∧ Sk t n a p) ∨ (f1 = 0 ∧ v1 < R ∧ kd = 7 ∧ StpR t n b1 f p b))
def NamR (t : Nat → Int) (n a f p b kd v1 v2 : Int) (wd : Nat → Int) : Prop := ∃ s e : Int, Sk t n a s ∧ Rn t n 97 122 s e ∧ ((e = s ∧ f = 1 ∧ p = s) ∨ (8 < e - s ∧ f = 4 ∧ p = s) ∨ ((s < e ∧ e - s ≤ 8) ∧ (∀ j : Nat, j < 8 → ((j : Int) < e - s → wd j = t (s.toNat + j)) ∧ (e - s ≤ (j : Int) → wd j = 0)) ∧ ∃ f1 p1 b1 : Int, Num t n 0 9999 e f1 p1 v1 b1 ∧ ((f1 ≠ 0 ∧ f = f1 ∧ p = p1) ∨ (f1 = 0 ∧ ∃ s2 e2 : Int, Sk t n b1 s2 ∧ Rn t n 97 122 s2 e2 ∧ ((¬ w_to t s2 e2 ∧ f = 1 ∧ p = s2) ∨ (w_to t s2 e2 ∧ ∃ f2 p2 b2 : Int, Num t n (v1 + 1) 9999 e2 f2 p2 v2 b2 ∧ ((f2 ≠ 0 ∧ f = f2 ∧ p = p2) ∨ (f2 = 0 ∧ kd = 6 ∧ StpR t n b2 f p b))))))))
theorem LetR_un {t : Nat → Int} {n a f p b kd v1 f' p' b' kd' v1' : Int} (h0 : 0 ≤ a) (h : LetR t n a f p b kd v1) (k : LetR t n a f' p' b' kd' v1') : f = f' ∧ (f = 0 ∨ p = p') ∧ (f ≠ 0 ∨ (b = b' ∧ a ≤ b ∧ kd = kd' ∧ v1 = v1' ∧ 0 ≤ kd ∧ kd ≤ 4)) := by
  obtain ⟨s, e, h1, h2, h3⟩ := h
  obtain ⟨s', e', k1, k2, k3⟩ := k
  have es := Sk_un h0 h1 k1
  subst es
  have hs := h1.1
  have ee := Rn_un (by omega) h2 k2
  subst ee
  have he := h2.1
  have hb := kwN_b t s e
  rcases h3 with ⟨a1, a2, a3⟩ | ⟨a1, f1, p1, b1, hn, h3⟩
  · rcases k3 with ⟨c1, c2, c3⟩ | ⟨c1, -⟩
    · exact ⟨by omega, Or.inr (by omega), Or.inl (by omega)⟩
    · omega
  · rcases k3 with ⟨c1, c2, c3⟩ | ⟨c1, f1', p1', b1', kn, k3⟩
    · omega
    · have u := Num_un (by omega) hn kn
      rcases h3 with ⟨a1, a2, a3⟩ | ⟨a1, a2, a3⟩
      · rcases k3 with ⟨c1, c2, c3⟩ | ⟨c1, c2, c3⟩
        · exact ⟨by omega, Or.inr (by omega), Or.inl (by omega)⟩
        · omega
      · rcases k3 with ⟨c1, c2, c3⟩ | ⟨c1, c2, c3⟩
        · omega
        · obtain ⟨u1, u2, u3⟩ := u.2.2.resolve_left (by omega)
          rw [← u2] at c3
          have w := StpR_un (by omega) a3 c3
          exact ⟨w.1, w.2.1, w.2.2.imp id (fun q => ⟨q.1, by omega, by omega, u1, by omega, by omega⟩)⟩
theorem TakR_un {t : Nat → Int} {n a f p b kd v1 f' p' b' kd' v1' : Int} (h0 : 0 ≤ a) (h : TakR t n a f p b kd v1) (k : TakR t n a f' p' b' kd' v1') : f = f' ∧ (f = 0 ∨ p = p') ∧ (f ≠ 0 ∨ (b = b' ∧ a ≤ b ∧ kd = kd' ∧ v1 = v1' ∧ kd = 5)) := by
  obtain ⟨s, e, h1, h2, h3⟩ := h
  obtain ⟨s', e', k1, k2, k3⟩ := k
  have es := Sk_un h0 h1 k1
  subst es
  have hs := h1.1
  have ee := Rn_un (by omega) h2 k2
  subst ee
  have he := h2.1
  rcases h3 with ⟨a1, a2, a3⟩ | ⟨a1, a2, a3, a4⟩
  · rcases k3 with ⟨c1, c2, c3⟩ | ⟨c1, c2, c3, c4⟩
    · exact ⟨by omega, Or.inr (by omega), Or.inl (by omega)⟩
    · omega
  · rcases k3 with ⟨c1, c2, c3⟩ | ⟨c1, c2, c3, c4⟩
    · omega
    · have w := StpR_un (by omega) a4 c4
      exact ⟨w.1, w.2.1, w.2.2.imp id (fun q => ⟨q.1, by omega, by omega, by omega, a2⟩)⟩
theorem StrR_un {t : Nat → Int} {n R a f p b kd v1 f' p' b' kd' v1' : Int} (h0 : 0 ≤ a) (h : StrR t n R a f p b kd v1) (k : StrR t n R a f' p' b' kd' v1') : f = f' ∧ (f = 0 ∨ p = p') ∧ (f ≠ 0 ∨ (b = b' ∧ a ≤ b ∧ kd = kd' ∧ v1 = v1' ∧ kd = 7)) := by
  obtain ⟨f1, p1, b1, hn, h3⟩ := h
  obtain ⟨f1', p1', b1', kn, k3⟩ := k
  have u := Num_un h0 hn kn
  rcases h3 with ⟨a1, a2, a3⟩ | ⟨a1, a2, a3, a4⟩ | ⟨a1, a2, a3, a4⟩
  · rcases k3 with ⟨c1, c2, c3⟩ | ⟨c1, c2, c3, c4⟩ | ⟨c1, c2, c3, c4⟩
    · exact ⟨by omega, Or.inr (by omega), Or.inl (by omega)⟩
    · omega
    · omega
  · rcases k3 with ⟨c1, c2, c3⟩ | ⟨c1, c2, c3, c4⟩ | ⟨c1, c2, c3, c4⟩
    · omega
    · exact ⟨by omega, Or.inr (Sk_un h0 a4 c4), Or.inl (by omega)⟩
    · have := u.2.2.resolve_left (by omega)
      omega
  · rcases k3 with ⟨c1, c2, c3⟩ | ⟨c1, c2, c3, c4⟩ | ⟨c1, c2, c3, c4⟩
    · omega
    · have := u.2.2.resolve_left (by omega)
      omega
    · obtain ⟨u1, u2, u3⟩ := u.2.2.resolve_left (by omega)
      rw [← u2] at c4
      have w := StpR_un (by omega) a4 c4
      exact ⟨w.1, w.2.1, w.2.2.imp id (fun q => ⟨q.1, by omega, by omega, u1, a3⟩)⟩
theorem NamR_un {t : Nat → Int} {n a f p b kd v1 v2 f' p' b' kd' v1' v2' : Int} {wd wd' : Nat → Int} (h0 : 0 ≤ a) (h : NamR t n a f p b kd v1 v2 wd) (k : NamR t n a f' p' b' kd' v1' v2' wd') : f = f' ∧ (f = 0 ∨ p = p') ∧ (f ≠ 0 ∨ (b = b' ∧ a ≤ b ∧ kd = kd' ∧ v1 = v1' ∧ v2 = v2' ∧ (∀ j : Nat, j < 8 → wd j = wd' j) ∧ kd = 6)) := by
  obtain ⟨s, e, h1, h2, h3⟩ := h
  obtain ⟨s', e', k1, k2, k3⟩ := k
  have es := Sk_un h0 h1 k1
  subst es
  have hs := h1.1
  have ee := Rn_un (by omega) h2 k2
  subst ee
  have he := h2.1
  rcases h3 with ⟨a1, a2, a3⟩ | ⟨a1, a2, a3⟩ | ⟨a1, a2, f1, p1, b1, hn, h3⟩
  · rcases k3 with ⟨c1, c2, c3⟩ | ⟨c1, c2, c3⟩ | ⟨c1, -⟩
    · exact ⟨by omega, Or.inr (by omega), Or.inl (by omega)⟩
    · omega
    · omega
  · rcases k3 with ⟨c1, c2, c3⟩ | ⟨c1, c2, c3⟩ | ⟨c1, -⟩
    · omega
    · exact ⟨by omega, Or.inr (by omega), Or.inl (by omega)⟩
    · omega
  · rcases k3 with ⟨c1, c2, c3⟩ | ⟨c1, c2, c3⟩ | ⟨c1, c2, f1', p1', b1', kn, k3⟩
    · omega
    · omega
    · have u := Num_un (by omega) hn kn
      have hw : ∀ j : Nat, j < 8 → wd j = wd' j := by
        intro j hj
        by_cases q : (j : Int) < e - s
        · rw [(a2 j hj).1 q, (c2 j hj).1 q]
        · rw [(a2 j hj).2 (by omega), (c2 j hj).2 (by omega)]
      rcases h3 with ⟨a1, a2, a3⟩ | ⟨a1, s2, e2, g1, g2, h3⟩
      · rcases k3 with ⟨c1, c2, c3⟩ | ⟨c1, -⟩
        · exact ⟨by omega, Or.inr (by omega), Or.inl (by omega)⟩
        · omega
      · rcases k3 with ⟨c1, c2, c3⟩ | ⟨c1, s2', e2', l1, l2, k3⟩
        · omega
        · obtain ⟨u1, u2, u3⟩ := u.2.2.resolve_left (by omega)
          subst u1
          subst u2
          have es := Sk_un (by omega) g1 l1
          subst es
          have hs2 := g1.1
          have ee := Rn_un (by omega) g2 l2
          subst ee
          have he2 := g2.1
          rcases h3 with ⟨a1, a2, a3⟩ | ⟨a1, f2, p2, b2, hm, h3⟩
          · rcases k3 with ⟨c1, c2, c3⟩ | ⟨c1, -⟩
            · exact ⟨by omega, Or.inr (by omega), Or.inl (by omega)⟩
            · exact absurd c1 a1
          · rcases k3 with ⟨c1, c2, c3⟩ | ⟨c1, f2', p2', b2', km, k3⟩
            · exact absurd a1 c1
            · have u := Num_un (by omega) hm km
              rcases h3 with ⟨a1, a2, a3⟩ | ⟨a1, a2, a3⟩
              · rcases k3 with ⟨c1, c2, c3⟩ | ⟨c1, c2, c3⟩
                · exact ⟨by omega, Or.inr (by omega), Or.inl (by omega)⟩
                · omega
              · rcases k3 with ⟨c1, c2, c3⟩ | ⟨c1, c2, c3⟩
                · omega
                · obtain ⟨u1, u2, u3⟩ := u.2.2.resolve_left (by omega)
                  rw [← u2] at c3
                  have w := StpR_un (by omega) a3 c3
                  exact ⟨w.1, w.2.1, w.2.2.imp id (fun q => ⟨q.1, by omega, by omega, rfl, u1, hw, a2⟩)⟩
/-- a clause at s, where a word may begin; c clauses stand before it, R rules -/
def ClR (t : Nat → Int) (n R s c f p b kd v1 v2 : Int) (wd : Nat → Int) : Prop := ∃ e : Int, Rn t n 97 122 s e ∧ ((kwK t s e = -1 ∧ f = 1 ∧ p = s) ∨ (0 ≤ kwK t s e ∧ 12 ≤ c ∧ f = 5 ∧ p = s) ∨ (kwK t s e = 0 ∧ c < 12 ∧ LetR t n e f p b kd v1) ∨ (kwK t s e = 1 ∧ c < 12 ∧ TakR t n e f p b kd v1) ∨ (kwK t s e = 2 ∧ c < 12 ∧ NamR t n e f p b kd v1 v2 wd) ∨ (kwK t s e = 3 ∧ c < 12 ∧ StrR t n R e f p b kd v1))
theorem ClR_un {t : Nat → Int} {n R s c f p b kd v1 v2 f' p' b' kd' v1' v2' : Int} {wd wd' : Nat → Int} (h0 : 0 ≤ s) (h : ClR t n R s c f p b kd v1 v2 wd) (k : ClR t n R s c f' p' b' kd' v1' v2' wd') : f = f' ∧ (f = 0 ∨ p = p') ∧ (f ≠ 0 ∨ (b = b' ∧ 0 ≤ b ∧ c < 12 ∧ kd = kd' ∧ v1 = v1' ∧ (kd = 6 → v2 = v2' ∧ ∀ j : Nat, j < 8 → wd j = wd' j))) := by
  obtain ⟨e, h2, h3⟩ := h
  obtain ⟨e', k2, k3⟩ := k
  have ee := Rn_un h0 h2 k2
  subst ee
  have he := h2.1
  rcases h3 with ⟨a1, a2, a3⟩ | ⟨a1, a2, a3, a4⟩ | ⟨a1, a2, a3⟩ | ⟨a1, a2, a3⟩ | ⟨a1, a2, a3⟩ | ⟨a1, a2, a3⟩
  · rcases k3 with ⟨c1, c2, c3⟩ | ⟨c1, -⟩ | ⟨c1, -⟩ | ⟨c1, -⟩ | ⟨c1, -⟩ | ⟨c1, -⟩
    · exact ⟨by omega, Or.inr (by omega), Or.inl (by omega)⟩
    · omega
    · omega
    · omega
    · omega
    · omega
  · rcases k3 with ⟨c1, -⟩ | ⟨c1, c2, c3, c4⟩ | ⟨c1, c2, -⟩ | ⟨c1, c2, -⟩ | ⟨c1, c2, -⟩ | ⟨c1, c2, -⟩
    · omega
    · exact ⟨by omega, Or.inr (by omega), Or.inl (by omega)⟩
    · omega
    · omega
    · omega
    · omega
  · rcases k3 with ⟨c1, -⟩ | ⟨c1, c2, -⟩ | ⟨c1, c2, c3⟩ | ⟨c1, -⟩ | ⟨c1, -⟩ | ⟨c1, -⟩
    · omega
    · omega
    · have w := LetR_un (by omega) a3 c3
      exact ⟨w.1, w.2.1, w.2.2.imp id (fun q => ⟨q.1, by omega, a2, q.2.2.1, q.2.2.2.1, fun z => by omega⟩)⟩
    · omega
    · omega
    · omega
  · rcases k3 with ⟨c1, -⟩ | ⟨c1, c2, -⟩ | ⟨c1, -⟩ | ⟨c1, c2, c3⟩ | ⟨c1, -⟩ | ⟨c1, -⟩
    · omega
    · omega
    · omega
    · have w := TakR_un (by omega) a3 c3
      exact ⟨w.1, w.2.1, w.2.2.imp id (fun q => ⟨q.1, by omega, a2, q.2.2.1, q.2.2.2.1, fun z => by omega⟩)⟩
    · omega
    · omega
  · rcases k3 with ⟨c1, -⟩ | ⟨c1, c2, -⟩ | ⟨c1, -⟩ | ⟨c1, -⟩ | ⟨c1, c2, c3⟩ | ⟨c1, -⟩
    · omega
    · omega
    · omega
    · omega
    · have w := NamR_un (by omega) a3 c3
      exact ⟨w.1, w.2.1, w.2.2.imp id (fun q => ⟨q.1, by omega, a2, q.2.2.1, q.2.2.2.1, fun z => ⟨q.2.2.2.2.1, q.2.2.2.2.2.1⟩⟩)⟩
    · omega
  · rcases k3 with ⟨c1, -⟩ | ⟨c1, c2, -⟩ | ⟨c1, -⟩ | ⟨c1, -⟩ | ⟨c1, -⟩ | ⟨c1, c2, c3⟩
    · omega
    · omega
    · omega
    · omega
    · omega
    · have w := StrR_un (by omega) a3 c3
      exact ⟨w.1, w.2.1, w.2.2.imp id (fun q => ⟨q.1, by omega, a2, q.2.2.1, q.2.2.2.1, fun z => by omega⟩)⟩
theorem NamR_cg {t : Nat → Int} {n a f p b kd v1 v2 : Int} {wd wd' : Nat → Int} (hw : ∀ j : Nat, j < 8 → wd j = wd' j) (h : NamR t n a f p b kd v1 v2 wd) : NamR t n a f p b kd v1 v2 wd' := by
  obtain ⟨s, e, h1, h2, h3⟩ := h
  refine ⟨s, e, h1, h2, ?_⟩
  rcases h3 with h3 | h3 | ⟨a1, a2, a3⟩
  · exact Or.inl h3
  · exact Or.inr (Or.inl h3)
  · exact Or.inr (Or.inr ⟨a1, fun j hj => by rw [← hw j hj]; exact a2 j hj, a3⟩)
theorem ClR_cg {t : Nat → Int} {n R s c f p b kd v1 v2 : Int} {wd wd' : Nat → Int} (hw : ∀ j : Nat, j < 8 → wd j = wd' j) (h : ClR t n R s c f p b kd v1 v2 wd) : ClR t n R s c f p b kd v1 v2 wd' := by
  obtain ⟨e, h2, h3⟩ := h
  refine ⟨e, h2, ?_⟩
  rcases h3 with h3 | h3 | h3 | h3 | ⟨a1, a2, a3⟩ | h3
  · exact Or.inl h3
  · exact Or.inr (Or.inl h3)
  · exact Or.inr (Or.inr (Or.inl h3))
  · exact Or.inr (Or.inr (Or.inr (Or.inl h3)))
  · exact Or.inr (Or.inr (Or.inr (Or.inr (Or.inl ⟨a1, a2, NamR_cg hw a3⟩))))
  · exact Or.inr (Or.inr (Or.inr (Or.inr (Or.inr h3))))
/-- so many clauses are good, and a is the place behind them -/
def Pf (t : Nat → Int) (n R : Int) (kd v1 v2 : Nat → Int) (wd : Nat → Nat → Int) : Nat → Int → Prop
  | 0, a => a = 0
  | c + 1, b => ∃ a s p : Int, Pf t n R kd v1 v2 wd c a ∧ Sk t n a s ∧ s < n ∧ ClR t n R s (c : Int) 0 p b (kd c) (v1 c) (v2 c) (wd c)
theorem Pf_S {t : Nat → Int} {n R : Int} {kd v1 v2 : Nat → Int} {wd : Nat → Nat → Int} {c : Nat} {a s p b : Int} (h1 : Pf t n R kd v1 v2 wd c a) (h2 : Sk t n a s) (h3 : s < n) (h4 : ClR t n R s (c : Int) 0 p b (kd c) (v1 c) (v2 c) (wd c)) : Pf t n R kd v1 v2 wd (c + 1) b := ⟨a, s, p, h1, h2, h3, h4⟩
theorem Pf_cg {t : Nat → Int} {n R : Int} {kd v1 v2 kd' v1' v2' : Nat → Int} {wd wd' : Nat → Nat → Int} : ∀ (c : Nat) (a : Int), (∀ i : Nat, i < c → kd i = kd' i ∧ v1 i = v1' i ∧ v2 i = v2' i ∧ ∀ j : Nat, j < 8 → wd i j = wd' i j) → Pf t n R kd v1 v2 wd c a → Pf t n R kd' v1' v2' wd' c a
  | 0, a, _, h => h
  | c + 1, b, hq, h => by
    obtain ⟨a, s, p, h1, h2, h3, h4⟩ := h
    have q := hq c (Nat.lt_succ_self c)
    rw [q.1, q.2.1, q.2.2.1] at h4
    exact ⟨a, s, p, Pf_cg c a (fun i hi => hq i (Nat.lt_succ_of_lt hi)) h1, h2, h3, ClR_cg q.2.2.2 h4⟩
theorem Pf_un {t : Nat → Int} {n R : Int} {kd v1 v2 kd' v1' v2' : Nat → Int} {wd wd' : Nat → Nat → Int} : ∀ (c : Nat) (a a' : Int), Pf t n R kd v1 v2 wd c a → Pf t n R kd' v1' v2' wd' c a' → a = a' ∧ 0 ≤ a ∧ ∀ i : Nat, i < c → kd i = kd' i ∧ v1 i = v1' i ∧ (kd i = 6 → v2 i = v2' i ∧ ∀ j : Nat, j < 8 → wd i j = wd' i j)
  | 0, a, a', h, k => by
    have h : a = 0 := h
    have k : a' = 0 := k
    exact ⟨by omega, by omega, fun i hi => absurd hi (Nat.not_lt_zero i)⟩
  | c + 1, b, b', h, k => by
    obtain ⟨a, s, p, h1, h2, h3, h4⟩ := h
    obtain ⟨a', s', p', k1, k2, k3, k4⟩ := k
    obtain ⟨ea, ha, hd⟩ := Pf_un c a a' h1 k1
    subst ea
    have es := Sk_un ha h2 k2
    subst es
    have hs := h2.1
    have w := ClR_un (by omega) h4 k4
    obtain ⟨w1, w2, w3, w4, w5, w6⟩ := w.2.2.resolve_left (fun q => q rfl)
    refine ⟨w1, w2, fun i hi => ?_⟩
    by_cases e : i = c
    · rw [e]; exact ⟨w4, w5, w6⟩
    · exact hd i (by omega)
/-- a longer reading begins with a shorter one -/
theorem Pf_le {t : Nat → Int} {n R : Int} {kd v1 v2 : Nat → Int} {wd : Nat → Nat → Int} {c : Nat} : ∀ (d : Nat) (b : Int), c < d → Pf t n R kd v1 v2 wd d b → ∃ b' : Int, Pf t n R kd v1 v2 wd (c + 1) b'
  | 0, _, h, _ => absurd h (Nat.not_lt_zero c)
  | d + 1, b, h, k => by
    by_cases e : c = d
    · rw [e]; exact ⟨b, k⟩
    · obtain ⟨a, s, p, h1, -⟩ := k
      exact Pf_le d a (by omega) h1
/-- the whole text: f its fault (0: none), p the fault's place, c how many clauses are good before that -/
def Out (t : Nat → Int) (n R f p : Int) (c : Nat) (kd v1 v2 : Nat → Int) (wd : Nat → Nat → Int) : Prop := ∃ a s : Int, Pf t n R kd v1 v2 wd c a ∧ Sk t n a s ∧ ((n ≤ s ∧ f = 0) ∨ (s < n ∧ f ≠ 0 ∧ ∃ (b k x y : Int) (w : Nat → Int), ClR t n R s (c : Int) f p b k x y w))
theorem Out_no {t : Nat → Int} {n R f p : Int} {kd v1 v2 kd' v1' v2' : Nat → Int} {wd wd' : Nat → Nat → Int} {c d : Nat} {b : Int} (h : Out t n R f p c kd v1 v2 wd) (k : Pf t n R kd' v1' v2' wd' d b) (hc : c < d) : False := by
  obtain ⟨b', a', s', p', k1, k2, k3, k4⟩ := Pf_le d b hc k
  obtain ⟨a, s, h1, h2, h3⟩ := h
  obtain ⟨ea, ha, -⟩ := Pf_un c a a' h1 k1
  subst ea
  have es := Sk_un ha h2 k2
  subst es
  rcases h3 with ⟨a1, -⟩ | ⟨a1, a2, b9, k9, x9, y9, w9, a3⟩
  · omega
  · have hs := h2.1
    exact a2 (ClR_un (by omega) a3 k4).1
theorem Out_un {t : Nat → Int} {n R f p f' p' : Int} {kd v1 v2 kd' v1' v2' : Nat → Int} {wd wd' : Nat → Nat → Int} {c c' : Nat} (h : Out t n R f p c kd v1 v2 wd) (k : Out t n R f' p' c' kd' v1' v2' wd') : c = c' ∧ f = f' ∧ (f = 0 ∨ p = p') ∧ ∀ i : Nat, i < c → kd i = kd' i ∧ v1 i = v1' i ∧ (kd i = 6 → v2 i = v2' i ∧ ∀ j : Nat, j < 8 → wd i j = wd' i j) := by
  have hcc : c = c' := by
    have h9 := h
    have k9 := k
    obtain ⟨a, s, h1, -⟩ := h9
    obtain ⟨a', s', k1, -⟩ := k9
    rcases Nat.lt_trichotomy c c' with q | q | q
    · exact (Out_no h k1 q).elim
    · exact q
    · exact (Out_no k h1 q).elim
  subst hcc
  obtain ⟨a, s, h1, h2, h3⟩ := h
  obtain ⟨a', s', k1, k2, k3⟩ := k
  obtain ⟨ea, ha, hd⟩ := Pf_un c a a' h1 k1
  subst ea
  have es := Sk_un ha h2 k2
  subst es
  have hs := h2.1
  refine ⟨rfl, ?_, ?_, hd⟩
  · rcases h3 with ⟨a1, a2⟩ | ⟨a1, a2, b9, k9, x9, y9, w9, a3⟩
    · rcases k3 with ⟨c1, c2⟩ | ⟨c1, -⟩
      · omega
      · omega
    · rcases k3 with ⟨c1, c2⟩ | ⟨c1, c2, b8, k8, x8, y8, w8, c3⟩
      · omega
      · exact (ClR_un (by omega) a3 c3).1
  · rcases h3 with ⟨a1, a2⟩ | ⟨a1, a2, b9, k9, x9, y9, w9, a3⟩
    · exact Or.inl a2
    · rcases k3 with ⟨c1, c2⟩ | ⟨c1, c2, b8, k8, x8, y8, w8, c3⟩
      · omega
      · exact (ClR_un (by omega) a3 c3).2.1

theorem nar_byte_id {x : Int32} (h : -128 ≤ x.toInt ∧ x.toInt ≤ 127) : vp_nar .byte x = x := by
  have e : x.toInt8.toInt32 = x := by
    apply Int32.toInt_inj.mp
    rw [Int8.toInt_toInt32, Int32.toInt_toInt8, Int.bmod_def]; omega
  exact e
theorem tab_lo {r : Int32} (h : 0 ≤ r.toInt ∧ r.toInt ≤ 4) : (C_LN r.toNatClampNeg).toInt = loN r.toInt := by
  rcases (by omega : r.toInt = 0 ∨ r.toInt = 1 ∨ r.toInt = 2 ∨ r.toInt = 3 ∨ r.toInt = 4) with q | q | q | q | q
  · rw [show r = 0 from z_of (by decide) q]; decide
  · rw [show r = 1 from z_of (by decide) q]; decide
  · rw [show r = 2 from z_of (by decide) q]; decide
  · rw [show r = 3 from z_of (by decide) q]; decide
  · rw [show r = 4 from z_of (by decide) q]; decide
theorem tab_hi {r : Int32} (h : 0 ≤ r.toInt ∧ r.toInt ≤ 4) : (C_MN r.toNatClampNeg).toInt = hiN r.toInt := by
  rcases (by omega : r.toInt = 0 ∨ r.toInt = 1 ∨ r.toInt = 2 ∨ r.toInt = 3 ∨ r.toInt = 4) with q | q | q | q | q
  · rw [show r = 0 from z_of (by decide) q]; decide
  · rw [show r = 1 from z_of (by decide) q]; decide
  · rw [show r = 2 from z_of (by decide) q]; decide
  · rw [show r = 3 from z_of (by decide) q]; decide
  · rw [show r = 4 from z_of (by decide) q]; decide
theorem loN_b (r : Int) : 0 ≤ loN r ∧ loN r ≤ 1 := by
  unfold loN; split
  · exact ⟨by decide, by decide⟩
  · exact ⟨by decide, by decide⟩
/-! ===== rd1 ===== -/
set_option maxHeartbeats 4000000 in
set_option maxRecDepth 100000 in
/-- X8_skipBlanks -/
theorem c_X8_skipBlanks_r (l : Launch) (dC : Nat → ClassId) (dI : Nat → Nat → Nat) (sz : Nat) (h : Nat) (g : Nat → Nat → Nat) (ca : Nat → Nat → ClassId) (iv : Nat → Nat → Int32) (lv : Nat → Nat → Int64) (fa : Nat → Nat → Nat → Int32) (la : Nat → Nat → Nat → Int64) (hI : IX iv fa) : Met l yX8_skipBlanks (wc yX8_skipBlanks cX8_skipBlanks 1 (some .boolean)) ({ frames := 0, cells := 0, slots := 0, locals := 0 } : Room) (pW (dC, dI) classes (WX h g ca iv lv fa la) (TX ca) sz [.ref (g 11 4)]) (va_Qi (fun r (u : SS) => ∃ (ni_8_5 : Int32), inb (bI 8 5) ni_8_5 ∧ (Sk (fun j => ((fa 8 1) j).toInt) (iv 8 2).toInt (iv 8 5).toInt (ni_8_5).toInt) ∧ (((r.toInt = 1 ∧ (ni_8_5).toInt < (iv 8 2).toInt) ∨ (r.toInt = 0 ∧ (iv 8 2).toInt ≤ (ni_8_5).toInt))) ∧ (0 ≤ r.toInt ∧ r.toInt ≤ 1) ∧ u = ((u2 iv 8 5 ni_8_5), lv, fa, la)) (bX (dC, dI) h g ca (va_A (WX h g ca iv lv fa la) sz)) (va_A (WX h g ca iv lv fa la) sz)) 0 0 (va_A (WX h g ca iv lv fa la) sz) := by
  refine Met.ofW (cc := cX8_skipBlanks) (maxL := 1) (ret := (some .boolean)) (by decide) rfl ?_
  intro p e s m args below meth c s₁ B hml hv
  obtain ⟨rfl, hsz, hP, hK, hD0⟩ := hv
  have hx := B.exec
  have hb := B.bytes
  have hr := B.returns
  have ht := tb_tl (atoms_spec (ws := wc yX8_skipBlanks cX8_skipBlanks 1 (some .boolean)) B.pre)
  have hown : s.vm.findClass RX8 = some m.cls := findClass_of_methodNamed B.named
  have hlocks := B.notSynchronized
  subst hsz
  have hD := hD0.self (sz := s.heap.size)
  generalize hAe : va_A (WX h g ca iv lv fa la) s.heap.size = A at hD ⊢
  have hA : ∀ q : Nat, s.heap.size ≤ q → A q := fun q h => by rw [← hAe]; exact Or.inr h
  have hS : va_S A s.heap s.heap [] := va_S.rf
  have hl := lv_entry [.ref (g 11 4)] (n := 1) (Nat.le_of_ble_eq_true rfl)
  rw [lg_entry_eq]
  generalize (lg_sl [.ref (g 11 4)] ++ List.replicate (1 - (lg_sl [.ref (g 11 4)]).length) Slot.unset).toArray = ls at hl ⊢
  have hl : lv_has ls 1 [(0, .ref (g 11 4))] := hl
  have i_8_2 : 0 ≤ (iv 8 2).toInt ∧ (iv 8 2).toInt ≤ 200 := hI.1 8 2
  have lp16 : ∀ (nn16 : Nat) (w15_i_8_5 : Int32), 0 ≤ w15_i_8_5.toInt ∧ w15_i_8_5.toInt ≤ 200 → (iv 8 5).toInt ≤ (w15_i_8_5 : Int32).toInt → (∀ j : Nat, (iv 8 5).toInt ≤ (j : Int) → (j : Int) < (w15_i_8_5 : Int32).toInt → (j : Int) < ((iv 8 2) : Int32).toInt ∧ ((fa 8 1) j).toInt = 32) → 200 - w15_i_8_5.toInt < (nn16 : Int) → ∀ (H : Heap) (locs : List Loc), ∀ (ls : Array Slot), va_P (dC, dI) classes (WX h g ca (u2 iv 8 5 w15_i_8_5) lv fa la) H → va_D A (WX h g ca (u2 iv 8 5 w15_i_8_5) lv fa la) → va_S A s.heap H locs → lv_has ls 1 [(0, .ref (g 11 4))] → W p l e ({ frames := 0, cells := 0, slots := 0, locals := 0 } : Room) s m ([.ref (g 11 4)] : List Value).toArray below meth c H locs 0 0 (MQ below (va_Qi (fun r (u : SS) => ∃ (ni_8_5 : Int32), inb (bI 8 5) ni_8_5 ∧ (Sk (fun j => ((fa 8 1) j).toInt) (iv 8 2).toInt (iv 8 5).toInt (ni_8_5).toInt) ∧ (((r.toInt = 1 ∧ (ni_8_5).toInt < (iv 8 2).toInt) ∨ (r.toInt = 0 ∧ (iv 8 2).toInt ≤ (ni_8_5).toInt))) ∧ (0 ≤ r.toInt ∧ r.toInt ≤ 1) ∧ u = ((u2 iv 8 5 ni_8_5), lv, fa, la)) (bX (dC, dI) h g ca A) A) ([.ref (g 11 4)] : List Value).toArray s 0 0 A) (F0 m 0 ls []) := by
    intro nn16
    induction nn16 with
    | zero => intro w15_i_8_5 hw15_i_8_5 hq16_0 hq16_1 hm16; exfalso; omega
    | succ nn16 ih16 =>
      intro w15_i_8_5 hw15_i_8_5 hq16_0 hq16_1 hm16 H locs ls hP hD hS hl
      refine lv_aload_n hx hb dX8_skipBlanks_0 rfl (lv_at hl 0 rfl) ?_
      refine gX_8_5 hx hb ht hown hK hP m_235 (v := w15_i_8_5) rfl dX8_skipBlanks_1 ?_
      refine lv_aload_n hx hb dX8_skipBlanks_4 rfl (lv_at hl 0 rfl) ?_
      refine gX_8_2 hx hb ht hown hK hP m_230 (v := (iv 8 2)) rfl dX8_skipBlanks_5 ?_
      refine lv_icmp_ge (tgt := 38) hx hb dX8_skipBlanks_8 (by decide) (fun c17 => ?_) (fun c17 => ?_)
      · have fc17 := z_le (rfl : ((iv 8 2)).toInt = _) (rfl : (w15_i_8_5).toInt = _) c17
        refine lv_aload_n hx hb dX8_skipBlanks_38 rfl (lv_at hl 0 rfl) ?_
        refine gX_8_5 hx hb ht hown hK hP m_235 (v := w15_i_8_5) rfl dX8_skipBlanks_39 ?_
        refine lv_aload_n hx hb dX8_skipBlanks_42 rfl (lv_at hl 0 rfl) ?_
        refine gX_8_2 hx hb ht hown hK hP m_230 (v := (iv 8 2)) rfl dX8_skipBlanks_43 ?_
        refine lv_icmp_ge (tgt := 53) hx hb dX8_skipBlanks_46 (by decide) (fun c18 => ?_) (fun c18 => ?_)
        · have fc18 := z_le (rfl : ((iv 8 2)).toInt = _) (rfl : (w15_i_8_5).toInt = _) c18
          refine lv_iconst (v := 0) hx hb dX8_skipBlanks_53 (by decide) ?_
          have : (0 : Int32).toInt = 0 := (by decide)
          have hP9 : va_P (dC, dI) classes (WX h g ca (u2 iv 8 5 w15_i_8_5) lv fa la) H := hP
          have hD9 : va_D A (WX h g ca (u2 iv 8 5 w15_i_8_5) lv fa la) := hD
          exact W.zret (v := 0) hx hb hr rfl (fun t ht9 hW => ⟨⟨0, ((u2 iv 8 5 w15_i_8_5), lv, fa, la), rfl, ⟨w15_i_8_5, (show inb (0, 200) w15_i_8_5 from ⟨by omega, by omega⟩), (show Sk (fun j => ((fa 8 1) j).toInt) ((iv 8 2) : Int32).toInt (iv 8 5).toInt (w15_i_8_5 : Int32).toInt from ⟨by omega, hq16_1, fun q => by omega⟩), (show (((0 : Int32).toInt = 1 ∧ (w15_i_8_5 : Int32).toInt < ((iv 8 2) : Int32).toInt) ∨ ((0 : Int32).toInt = 0 ∧ ((iv 8 2) : Int32).toInt ≤ (w15_i_8_5 : Int32).toInt)) from by omega), ⟨by decide, by decide⟩, rfl⟩, by rw [ht9]; exact hP9, hD9⟩, hS.F ht9⟩) hS.2.2 dX8_skipBlanks_54
        · have fc18 := z_nle (rfl : ((iv 8 2)).toInt = _) (rfl : (w15_i_8_5).toInt = _) c18
          refine lv_iconst (v := 1) hx hb dX8_skipBlanks_49 (by decide) ?_
          refine lv_goto (tgt := 54) hx hb dX8_skipBlanks_50 (by decide) ?_
          have : (1 : Int32).toInt = 1 := (by decide)
          have hP9 : va_P (dC, dI) classes (WX h g ca (u2 iv 8 5 w15_i_8_5) lv fa la) H := hP
          have hD9 : va_D A (WX h g ca (u2 iv 8 5 w15_i_8_5) lv fa la) := hD
          exact W.zret (v := 1) hx hb hr rfl (fun t ht9 hW => ⟨⟨1, ((u2 iv 8 5 w15_i_8_5), lv, fa, la), rfl, ⟨w15_i_8_5, (show inb (0, 200) w15_i_8_5 from ⟨by omega, by omega⟩), (show Sk (fun j => ((fa 8 1) j).toInt) ((iv 8 2) : Int32).toInt (iv 8 5).toInt (w15_i_8_5 : Int32).toInt from ⟨by omega, hq16_1, fun q => by omega⟩), (show (((1 : Int32).toInt = 1 ∧ (w15_i_8_5 : Int32).toInt < ((iv 8 2) : Int32).toInt) ∨ ((1 : Int32).toInt = 0 ∧ ((iv 8 2) : Int32).toInt ≤ (w15_i_8_5 : Int32).toInt)) from by omega), ⟨by decide, by decide⟩, rfl⟩, by rw [ht9]; exact hP9, hD9⟩, hS.F ht9⟩) hS.2.2 dX8_skipBlanks_54
      · have fc17 := z_nle (rfl : ((iv 8 2)).toInt = _) (rfl : (w15_i_8_5).toInt = _) c17
        refine lv_aload_n hx hb dX8_skipBlanks_11 rfl (lv_at hl 0 rfl) ?_
        refine gX_8_1 hx hb ht hown hK hP m_229 dX8_skipBlanks_12 ?_
        refine lv_aload_n hx hb dX8_skipBlanks_15 rfl (lv_at hl 0 rfl) ?_
        refine gX_8_5 hx hb ht hown hK hP m_235 (v := w15_i_8_5) rfl dX8_skipBlanks_16 ?_
        refine lX_8_1 hx hb hK hP (f := (fa 8 1)) rfl (vp_in_iff.mpr ⟨by omega, by omega⟩) dX8_skipBlanks_19 ?_
        refine lv_topi (fun v19 ev19 => ?_)
        refine lv_bipush (v := 32) hx hb dX8_skipBlanks_20 (by decide) ?_
        refine lv_icmp_ne (tgt := 38) hx hb dX8_skipBlanks_22 (by decide) (fun c20 => ?_) (fun c20 => ?_)
        · have fc20 := z_ne (rfl : (v19).toInt = _) (by decide : (32 : Int32).toInt = 32) c20
          refine lv_aload_n hx hb dX8_skipBlanks_38 rfl (lv_at hl 0 rfl) ?_
          refine gX_8_5 hx hb ht hown hK hP m_235 (v := w15_i_8_5) rfl dX8_skipBlanks_39 ?_
          refine lv_aload_n hx hb dX8_skipBlanks_42 rfl (lv_at hl 0 rfl) ?_
          refine gX_8_2 hx hb ht hown hK hP m_230 (v := (iv 8 2)) rfl dX8_skipBlanks_43 ?_
          refine lv_icmp_ge (tgt := 53) hx hb dX8_skipBlanks_46 (by decide) (fun c21 => ?_) (fun c21 => ?_)
          · have fc21 := z_le (rfl : ((iv 8 2)).toInt = _) (rfl : (w15_i_8_5).toInt = _) c21
            refine lv_iconst (v := 0) hx hb dX8_skipBlanks_53 (by decide) ?_
            have : (0 : Int32).toInt = 0 := (by decide)
            have hP9 : va_P (dC, dI) classes (WX h g ca (u2 iv 8 5 w15_i_8_5) lv fa la) H := hP
            have hD9 : va_D A (WX h g ca (u2 iv 8 5 w15_i_8_5) lv fa la) := hD
            exact W.zret (v := 0) hx hb hr rfl (fun t ht9 hW => ⟨⟨0, ((u2 iv 8 5 w15_i_8_5), lv, fa, la), rfl, ⟨w15_i_8_5, (show inb (0, 200) w15_i_8_5 from ⟨by omega, by omega⟩), (show Sk (fun j => ((fa 8 1) j).toInt) ((iv 8 2) : Int32).toInt (iv 8 5).toInt (w15_i_8_5 : Int32).toInt from ⟨by omega, hq16_1, fun q => by have q2 : (fa 8 1 ((w15_i_8_5 : Int32).toInt).toNat).toInt = 32 := q.2; have hv9 := congrArg Int32.toInt (show v19 = (fa 8 1) ((w15_i_8_5 : Int32).toInt).toNat from ev19); omega⟩), (show (((0 : Int32).toInt = 1 ∧ (w15_i_8_5 : Int32).toInt < ((iv 8 2) : Int32).toInt) ∨ ((0 : Int32).toInt = 0 ∧ ((iv 8 2) : Int32).toInt ≤ (w15_i_8_5 : Int32).toInt)) from by omega), ⟨by decide, by decide⟩, rfl⟩, by rw [ht9]; exact hP9, hD9⟩, hS.F ht9⟩) hS.2.2 dX8_skipBlanks_54
          · have fc21 := z_nle (rfl : ((iv 8 2)).toInt = _) (rfl : (w15_i_8_5).toInt = _) c21
            refine lv_iconst (v := 1) hx hb dX8_skipBlanks_49 (by decide) ?_
            refine lv_goto (tgt := 54) hx hb dX8_skipBlanks_50 (by decide) ?_
            have : (1 : Int32).toInt = 1 := (by decide)
            have hP9 : va_P (dC, dI) classes (WX h g ca (u2 iv 8 5 w15_i_8_5) lv fa la) H := hP
            have hD9 : va_D A (WX h g ca (u2 iv 8 5 w15_i_8_5) lv fa la) := hD
            exact W.zret (v := 1) hx hb hr rfl (fun t ht9 hW => ⟨⟨1, ((u2 iv 8 5 w15_i_8_5), lv, fa, la), rfl, ⟨w15_i_8_5, (show inb (0, 200) w15_i_8_5 from ⟨by omega, by omega⟩), (show Sk (fun j => ((fa 8 1) j).toInt) ((iv 8 2) : Int32).toInt (iv 8 5).toInt (w15_i_8_5 : Int32).toInt from ⟨by omega, hq16_1, fun q => by have q2 : (fa 8 1 ((w15_i_8_5 : Int32).toInt).toNat).toInt = 32 := q.2; have hv9 := congrArg Int32.toInt (show v19 = (fa 8 1) ((w15_i_8_5 : Int32).toInt).toNat from ev19); omega⟩), (show (((1 : Int32).toInt = 1 ∧ (w15_i_8_5 : Int32).toInt < ((iv 8 2) : Int32).toInt) ∨ ((1 : Int32).toInt = 0 ∧ ((iv 8 2) : Int32).toInt ≤ (w15_i_8_5 : Int32).toInt)) from by omega), ⟨by decide, by decide⟩, rfl⟩, by rw [ht9]; exact hP9, hD9⟩, hS.F ht9⟩) hS.2.2 dX8_skipBlanks_54
        · have fc20 := z_eq (rfl : (v19).toInt = _) (by decide : (32 : Int32).toInt = 32) c20
          refine lv_aload_n hx hb dX8_skipBlanks_25 rfl (lv_at hl 0 rfl) ?_
          refine lv_dup hx hb dX8_skipBlanks_26 rfl ?_
          refine gX_8_5 hx hb ht hown hK hP m_235 (v := w15_i_8_5) rfl dX8_skipBlanks_27 ?_
          refine lv_iconst (v := 1) hx hb dX8_skipBlanks_30 (by decide) ?_
          refine lv_iadd hx hb dX8_skipBlanks_31 ?_
          refine lv_topi (fun v22 ev22 => ?_)
          have tv22 := z_add ev22 (rfl : (w15_i_8_5).toInt = _) (by decide : (1 : Int32).toInt = 1) (by omega) (by omega)
          refine pX_8_5 (v := v22) hx hb ht hown hK hP hD hS m_235 dX8_skipBlanks_32 (fun H locs hP hD hS => ?_)
          have hP : va_P (dC, dI) classes (WX h g ca (u2 iv 8 5 v22) lv fa la) H := hP
          have hD : va_D A (WX h g ca (u2 iv 8 5 v22) lv fa la) := hD
          refine lv_goto (tgt := 0) hx hb dX8_skipBlanks_35 (by decide) ?_
          exact ih16 v22 ⟨by omega, by omega⟩ (show (iv 8 5).toInt ≤ (v22 : Int32).toInt from by omega) (show ∀ j : Nat, (iv 8 5).toInt ≤ (j : Int) → (j : Int) < (v22 : Int32).toInt → (j : Int) < ((iv 8 2) : Int32).toInt ∧ ((fa 8 1) j).toInt = 32 from (fun j h1 h2 => by
                by_cases hj : (j : Int) < (w15_i_8_5 : Int32).toInt
                · exact hq16_1 j h1 hj
                · have hj2 : j = ((w15_i_8_5 : Int32).toInt).toNat := by omega
                  have hv9 := congrArg Int32.toInt (show v19 = (fa 8 1) ((w15_i_8_5 : Int32).toInt).toNat from ev19)
                  rw [hj2]
                  exact ⟨by omega, by omega⟩)) (by omega) _ _ ls hP hD hS (lv_sub hl [0] rfl)
  have i_8_5 : 0 ≤ (iv 8 5).toInt ∧ (iv 8 5).toInt ≤ 200 := hI.1 8 5
  have i_8_2 : 0 ≤ (iv 8 2).toInt ∧ (iv 8 2).toInt ≤ 200 := hI.1 8 2
  exact lp16 201 (iv 8 5) ⟨by omega, by omega⟩ (show (iv 8 5).toInt ≤ ((iv 8 5) : Int32).toInt from by omega) (show ∀ j : Nat, (iv 8 5).toInt ≤ (j : Int) → (j : Int) < ((iv 8 5) : Int32).toInt → (j : Int) < ((iv 8 2) : Int32).toInt ∧ ((fa 8 1) j).toInt = 32 from fun j h1 h2 => absurd h1 (by omega)) (by first | decide | omega) _ _ ls hP hD hS (lv_sub hl [0] rfl)
set_option maxHeartbeats 4000000 in
set_option maxRecDepth 100000 in
/-- X8_endOfRun -/
theorem c_X8_endOfRun_r97 (l : Launch) (dC : Nat → ClassId) (dI : Nat → Nat → Nat) (h : Nat) (g : Nat → Nat → Nat) (ca : Nat → Nat → ClassId) (iv : Nat → Nat → Int32) (lv : Nat → Nat → Int64) (fa : Nat → Nat → Nat → Int32) (la : Nat → Nat → Nat → Int64) (hI : IX iv fa) : Met l yX8_endOfRun (wc yX8_endOfRun cX8_endOfRun 4 (some .int)) ({ frames := 0, cells := 0, slots := 0, locals := 0 } : Room) (pR (dC, dI) classes (WX h g ca iv lv fa la) (TX ca) [.ref (g 11 4), .int 97, .int 122]) (vp_Si (fun r => (0 ≤ r.toInt ∧ r.toInt ≤ 200) ∧ (Rn (fun j => ((fa 8 1) j).toInt) (iv 8 2).toInt 97 122 (iv 8 5).toInt r.toInt) ∧ ((iv 8 5).toInt ≤ r.toInt))) 0 0 (fun _ => False) := by
  refine Met.ofW (cc := cX8_endOfRun) (maxL := 4) (ret := (some .int)) (by decide) rfl ?_
  intro p e s m args below meth c s₁ B hml hv
  obtain ⟨rfl, hP, hK⟩ := hv
  have hx := B.exec
  have hb := B.bytes
  have hr := B.returns
  have ht := tb_tl (atoms_spec (ws := wc yX8_endOfRun cX8_endOfRun 4 (some .int)) B.pre)
  have hown : s.vm.findClass RX8 = some m.cls := findClass_of_methodNamed B.named
  have hlocks := B.notSynchronized
  have hl := lv_entry [.ref (g 11 4), .int 97, .int 122] (n := 4) (Nat.le_of_ble_eq_true rfl)
  rw [lg_entry_eq]
  generalize (lg_sl [.ref (g 11 4), .int 97, .int 122] ++ List.replicate (4 - (lg_sl [.ref (g 11 4), .int 97, .int 122]).length) Slot.unset).toArray = ls at hl ⊢
  have hl : lv_has ls 4 [(0, .ref (g 11 4)), (1, .int 97), (2, .int 122)] := hl
  refine lv_aload_n hx hb dX8_endOfRun_0 rfl (lv_at hl 0 rfl) ?_
  have i_8_5 : 0 ≤ (iv 8 5).toInt ∧ (iv 8 5).toInt ≤ 200 := hI.1 8 5
  refine gX_8_5 hx hb ht hown hK hP m_235 (v := (iv 8 5)) rfl dX8_endOfRun_1 ?_
  refine lv_istore_n (lv' := [(3, .int (iv 8 5)), (0, .ref (g 11 4)), (1, .int 97), (2, .int 122)]) hx hb dX8_endOfRun_4 rfl hl (by decide) rfl (fun ls hl => ?_)
  have i_8_2 : 0 ≤ (iv 8 2).toInt ∧ (iv 8 2).toInt ≤ 200 := hI.1 8 2
  have lp9 : ∀ (nn9 : Nat) (x8_3 : Int32), 0 ≤ x8_3.toInt ∧ x8_3.toInt ≤ 200 → ((iv 8 5) : Int32).toInt ≤ (x8_3 : Int32).toInt → (∀ j : Nat, ((iv 8 5) : Int32).toInt ≤ (j : Int) → (j : Int) < (x8_3 : Int32).toInt → (j : Int) < ((iv 8 2) : Int32).toInt ∧ 97 ≤ ((fa 8 1) j).toInt ∧ ((fa 8 1) j).toInt ≤ 122) → 200 - x8_3.toInt < (nn9 : Int) → ∀ (ls : Array Slot), lv_has ls 4 [(3, .int x8_3), (0, .ref (g 11 4)), (1, .int 97), (2, .int 122)] → W p l e ({ frames := 0, cells := 0, slots := 0, locals := 0 } : Room) s m ([.ref (g 11 4), .int 97, .int 122] : List Value).toArray below meth c s.heap [] 0 0 (MQ below (vp_Si (fun r => (0 ≤ r.toInt ∧ r.toInt ≤ 200) ∧ (Rn (fun j => ((fa 8 1) j).toInt) (iv 8 2).toInt 97 122 (iv 8 5).toInt r.toInt) ∧ ((iv 8 5).toInt ≤ r.toInt))) ([.ref (g 11 4), .int 97, .int 122] : List Value).toArray s 0 0 (fun _ => False)) (F0 m 5 ls []) := by
    intro nn9
    induction nn9 with
    | zero => intro x8_3 hx8_3 hq9_0 hq9_1 hm9; exfalso; omega
    | succ nn9 ih9 =>
      intro x8_3 hx8_3 hq9_0 hq9_1 hm9 ls hl
      refine lv_iload_n hx hb dX8_endOfRun_5 rfl (lv_at hl 0 rfl) ?_
      refine lv_aload_n hx hb dX8_endOfRun_6 rfl (lv_at hl 1 rfl) ?_
      refine gX_8_2 hx hb ht hown hK hP m_230 (v := (iv 8 2)) rfl dX8_endOfRun_7 ?_
      refine lv_icmp_ge (tgt := 39) hx hb dX8_endOfRun_10 (by decide) (fun c10 => ?_) (fun c10 => ?_)
      · have fc10 := z_le (rfl : ((iv 8 2)).toInt = _) (rfl : (x8_3).toInt = _) c10
        refine lv_iload_n hx hb dX8_endOfRun_39 rfl (lv_at hl 0 rfl) ?_
        exact W.iret (v := x8_3) hx hb hr (fun t ht9 hW => ⟨x8_3, rfl, ⟨⟨by omega, by omega⟩, (show Rn (fun j => ((fa 8 1) j).toInt) ((iv 8 2) : Int32).toInt 97 122 ((iv 8 5) : Int32).toInt (x8_3 : Int32).toInt from ⟨by omega, hq9_1, fun q => by omega⟩), (show ((iv 8 5) : Int32).toInt ≤ (x8_3 : Int32).toInt from by omega)⟩, ht9⟩) (fun q hq => by cases hq) dX8_endOfRun_40
      · have fc10 := z_nle (rfl : ((iv 8 2)).toInt = _) (rfl : (x8_3).toInt = _) c10
        refine lv_aload_n hx hb dX8_endOfRun_13 rfl (lv_at hl 1 rfl) ?_
        refine gX_8_1 hx hb ht hown hK hP m_229 dX8_endOfRun_14 ?_
        refine lv_iload_n hx hb dX8_endOfRun_17 rfl (lv_at hl 0 rfl) ?_
        refine lX_8_1 hx hb hK hP (f := (fa 8 1)) rfl (vp_in_iff.mpr ⟨by omega, by omega⟩) dX8_endOfRun_18 ?_
        refine lv_topi (fun v11 ev11 => ?_)
        refine lv_iload_n hx hb dX8_endOfRun_19 rfl (lv_at hl 2 rfl) ?_
        refine lv_icmp_lt (tgt := 39) hx hb dX8_endOfRun_20 (by decide) (fun c12 => ?_) (fun c12 => ?_)
        · have fc12 := z_lt (rfl : (v11).toInt = _) (by decide : (97 : Int32).toInt = 97) c12
          refine lv_iload_n hx hb dX8_endOfRun_39 rfl (lv_at hl 0 rfl) ?_
          exact W.iret (v := x8_3) hx hb hr (fun t ht9 hW => ⟨x8_3, rfl, ⟨⟨by omega, by omega⟩, (show Rn (fun j => ((fa 8 1) j).toInt) ((iv 8 2) : Int32).toInt 97 122 ((iv 8 5) : Int32).toInt (x8_3 : Int32).toInt from ⟨by omega, hq9_1, fun q => by have q2 : 97 ≤ (fa 8 1 ((x8_3 : Int32).toInt).toNat).toInt ∧ (fa 8 1 ((x8_3 : Int32).toInt).toNat).toInt ≤ 122 := q.2; have hv9 := congrArg Int32.toInt (show v11 = (fa 8 1) ((x8_3 : Int32).toInt).toNat from ev11); omega⟩), (show ((iv 8 5) : Int32).toInt ≤ (x8_3 : Int32).toInt from by omega)⟩, ht9⟩) (fun q hq => by cases hq) dX8_endOfRun_40
        · have fc12 := z_nlt (rfl : (v11).toInt = _) (by decide : (97 : Int32).toInt = 97) c12
          refine lv_aload_n hx hb dX8_endOfRun_23 rfl (lv_at hl 1 rfl) ?_
          refine gX_8_1 hx hb ht hown hK hP m_229 dX8_endOfRun_24 ?_
          refine lv_iload_n hx hb dX8_endOfRun_27 rfl (lv_at hl 0 rfl) ?_
          refine lX_8_1 hx hb hK hP (f := (fa 8 1)) rfl (vp_in_iff.mpr ⟨by omega, by omega⟩) dX8_endOfRun_28 ?_
          refine lv_topi (fun v13 ev13 => ?_)
          obtain rfl : v11 = v13 := ev11.trans ev13.symm
          refine lv_iload_n hx hb dX8_endOfRun_29 rfl (lv_at hl 3 rfl) ?_
          refine lv_icmp_gt (tgt := 39) hx hb dX8_endOfRun_30 (by decide) (fun c14 => ?_) (fun c14 => ?_)
          · have fc14 := z_lt (by decide : (122 : Int32).toInt = 122) (rfl : (v11).toInt = _) c14
            refine lv_iload_n hx hb dX8_endOfRun_39 rfl (lv_at hl 0 rfl) ?_
            exact W.iret (v := x8_3) hx hb hr (fun t ht9 hW => ⟨x8_3, rfl, ⟨⟨by omega, by omega⟩, (show Rn (fun j => ((fa 8 1) j).toInt) ((iv 8 2) : Int32).toInt 97 122 ((iv 8 5) : Int32).toInt (x8_3 : Int32).toInt from ⟨by omega, hq9_1, fun q => by have q2 : 97 ≤ (fa 8 1 ((x8_3 : Int32).toInt).toNat).toInt ∧ (fa 8 1 ((x8_3 : Int32).toInt).toNat).toInt ≤ 122 := q.2; have hv9 := congrArg Int32.toInt (show v11 = (fa 8 1) ((x8_3 : Int32).toInt).toNat from ev11); omega⟩), (show ((iv 8 5) : Int32).toInt ≤ (x8_3 : Int32).toInt from by omega)⟩, ht9⟩) (fun q hq => by cases hq) dX8_endOfRun_40
          · have fc14 := z_nlt (by decide : (122 : Int32).toInt = 122) (rfl : (v11).toInt = _) c14
            obtain ⟨v15, ev15⟩ : ∃ y : Int32, y = x8_3 + 1 := ⟨_, rfl⟩
            have tv15 := z_add ev15 rfl (by decide : (1 : Int32).toInt = 1) (by omega) (by omega)
            refine lv_iinc (v := v15) (lv' := [(3, .int v15), (0, .ref (g 11 4)), (1, .int 97), (2, .int 122)]) hx hb dX8_endOfRun_33 hl (k := 0) rfl (by rw [ev15]; rfl) (by decide) rfl (fun ls hl => ?_)
            refine lv_goto (tgt := 5) hx hb dX8_endOfRun_36 (by decide) ?_
            exact ih9 v15 ⟨by omega, by omega⟩ (show ((iv 8 5) : Int32).toInt ≤ (v15 : Int32).toInt from by omega) (show ∀ j : Nat, ((iv 8 5) : Int32).toInt ≤ (j : Int) → (j : Int) < (v15 : Int32).toInt → (j : Int) < ((iv 8 2) : Int32).toInt ∧ 97 ≤ ((fa 8 1) j).toInt ∧ ((fa 8 1) j).toInt ≤ 122 from (fun j h1 h2 => by
                  by_cases hj : (j : Int) < (x8_3 : Int32).toInt
                  · exact hq9_1 j h1 hj
                  · have hj2 : j = ((x8_3 : Int32).toInt).toNat := by omega
                    have hv9 := congrArg Int32.toInt (show v11 = (fa 8 1) ((x8_3 : Int32).toInt).toNat from ev11)
                    rw [hj2]
                    exact ⟨by omega, by omega, by omega⟩)) (by omega) ls (lv_sub hl [0, 1, 2, 3] rfl)
  have i_8_2 : 0 ≤ (iv 8 2).toInt ∧ (iv 8 2).toInt ≤ 200 := hI.1 8 2
  exact lp9 201 (iv 8 5) ⟨by omega, by omega⟩ (show ((iv 8 5) : Int32).toInt ≤ ((iv 8 5) : Int32).toInt from by omega) (show ∀ j : Nat, ((iv 8 5) : Int32).toInt ≤ (j : Int) → (j : Int) < ((iv 8 5) : Int32).toInt → (j : Int) < ((iv 8 2) : Int32).toInt ∧ 97 ≤ ((fa 8 1) j).toInt ∧ ((fa 8 1) j).toInt ≤ 122 from fun j h1 h2 => absurd h1 (by omega)) (by first | decide | omega) ls (lv_sub hl [0, 1, 2, 3] rfl)
set_option maxHeartbeats 4000000 in
set_option maxRecDepth 100000 in
/-- X8_endOfRun -/
theorem c_X8_endOfRun_r48 (l : Launch) (dC : Nat → ClassId) (dI : Nat → Nat → Nat) (h : Nat) (g : Nat → Nat → Nat) (ca : Nat → Nat → ClassId) (iv : Nat → Nat → Int32) (lv : Nat → Nat → Int64) (fa : Nat → Nat → Nat → Int32) (la : Nat → Nat → Nat → Int64) (hI : IX iv fa) : Met l yX8_endOfRun (wc yX8_endOfRun cX8_endOfRun 4 (some .int)) ({ frames := 0, cells := 0, slots := 0, locals := 0 } : Room) (pR (dC, dI) classes (WX h g ca iv lv fa la) (TX ca) [.ref (g 11 4), .int 48, .int 57]) (vp_Si (fun r => (0 ≤ r.toInt ∧ r.toInt ≤ 200) ∧ (Rn (fun j => ((fa 8 1) j).toInt) (iv 8 2).toInt 48 57 (iv 8 5).toInt r.toInt) ∧ ((iv 8 5).toInt ≤ r.toInt))) 0 0 (fun _ => False) := by
  refine Met.ofW (cc := cX8_endOfRun) (maxL := 4) (ret := (some .int)) (by decide) rfl ?_
  intro p e s m args below meth c s₁ B hml hv
  obtain ⟨rfl, hP, hK⟩ := hv
  have hx := B.exec
  have hb := B.bytes
  have hr := B.returns
  have ht := tb_tl (atoms_spec (ws := wc yX8_endOfRun cX8_endOfRun 4 (some .int)) B.pre)
  have hown : s.vm.findClass RX8 = some m.cls := findClass_of_methodNamed B.named
  have hlocks := B.notSynchronized
  have hl := lv_entry [.ref (g 11 4), .int 48, .int 57] (n := 4) (Nat.le_of_ble_eq_true rfl)
  rw [lg_entry_eq]
  generalize (lg_sl [.ref (g 11 4), .int 48, .int 57] ++ List.replicate (4 - (lg_sl [.ref (g 11 4), .int 48, .int 57]).length) Slot.unset).toArray = ls at hl ⊢
  have hl : lv_has ls 4 [(0, .ref (g 11 4)), (1, .int 48), (2, .int 57)] := hl
  refine lv_aload_n hx hb dX8_endOfRun_0 rfl (lv_at hl 0 rfl) ?_
  have i_8_5 : 0 ≤ (iv 8 5).toInt ∧ (iv 8 5).toInt ≤ 200 := hI.1 8 5
  refine gX_8_5 hx hb ht hown hK hP m_235 (v := (iv 8 5)) rfl dX8_endOfRun_1 ?_
  refine lv_istore_n (lv' := [(3, .int (iv 8 5)), (0, .ref (g 11 4)), (1, .int 48), (2, .int 57)]) hx hb dX8_endOfRun_4 rfl hl (by decide) rfl (fun ls hl => ?_)
  have i_8_2 : 0 ≤ (iv 8 2).toInt ∧ (iv 8 2).toInt ≤ 200 := hI.1 8 2
  have lp9 : ∀ (nn9 : Nat) (x8_3 : Int32), 0 ≤ x8_3.toInt ∧ x8_3.toInt ≤ 200 → ((iv 8 5) : Int32).toInt ≤ (x8_3 : Int32).toInt → (∀ j : Nat, ((iv 8 5) : Int32).toInt ≤ (j : Int) → (j : Int) < (x8_3 : Int32).toInt → (j : Int) < ((iv 8 2) : Int32).toInt ∧ 48 ≤ ((fa 8 1) j).toInt ∧ ((fa 8 1) j).toInt ≤ 57) → 200 - x8_3.toInt < (nn9 : Int) → ∀ (ls : Array Slot), lv_has ls 4 [(3, .int x8_3), (0, .ref (g 11 4)), (1, .int 48), (2, .int 57)] → W p l e ({ frames := 0, cells := 0, slots := 0, locals := 0 } : Room) s m ([.ref (g 11 4), .int 48, .int 57] : List Value).toArray below meth c s.heap [] 0 0 (MQ below (vp_Si (fun r => (0 ≤ r.toInt ∧ r.toInt ≤ 200) ∧ (Rn (fun j => ((fa 8 1) j).toInt) (iv 8 2).toInt 48 57 (iv 8 5).toInt r.toInt) ∧ ((iv 8 5).toInt ≤ r.toInt))) ([.ref (g 11 4), .int 48, .int 57] : List Value).toArray s 0 0 (fun _ => False)) (F0 m 5 ls []) := by
    intro nn9
    induction nn9 with
    | zero => intro x8_3 hx8_3 hq9_0 hq9_1 hm9; exfalso; omega
    | succ nn9 ih9 =>
      intro x8_3 hx8_3 hq9_0 hq9_1 hm9 ls hl
      refine lv_iload_n hx hb dX8_endOfRun_5 rfl (lv_at hl 0 rfl) ?_
      refine lv_aload_n hx hb dX8_endOfRun_6 rfl (lv_at hl 1 rfl) ?_
      refine gX_8_2 hx hb ht hown hK hP m_230 (v := (iv 8 2)) rfl dX8_endOfRun_7 ?_
      refine lv_icmp_ge (tgt := 39) hx hb dX8_endOfRun_10 (by decide) (fun c10 => ?_) (fun c10 => ?_)
      · have fc10 := z_le (rfl : ((iv 8 2)).toInt = _) (rfl : (x8_3).toInt = _) c10
        refine lv_iload_n hx hb dX8_endOfRun_39 rfl (lv_at hl 0 rfl) ?_
        exact W.iret (v := x8_3) hx hb hr (fun t ht9 hW => ⟨x8_3, rfl, ⟨⟨by omega, by omega⟩, (show Rn (fun j => ((fa 8 1) j).toInt) ((iv 8 2) : Int32).toInt 48 57 ((iv 8 5) : Int32).toInt (x8_3 : Int32).toInt from ⟨by omega, hq9_1, fun q => by omega⟩), (show ((iv 8 5) : Int32).toInt ≤ (x8_3 : Int32).toInt from by omega)⟩, ht9⟩) (fun q hq => by cases hq) dX8_endOfRun_40
      · have fc10 := z_nle (rfl : ((iv 8 2)).toInt = _) (rfl : (x8_3).toInt = _) c10
        refine lv_aload_n hx hb dX8_endOfRun_13 rfl (lv_at hl 1 rfl) ?_
        refine gX_8_1 hx hb ht hown hK hP m_229 dX8_endOfRun_14 ?_
        refine lv_iload_n hx hb dX8_endOfRun_17 rfl (lv_at hl 0 rfl) ?_
        refine lX_8_1 hx hb hK hP (f := (fa 8 1)) rfl (vp_in_iff.mpr ⟨by omega, by omega⟩) dX8_endOfRun_18 ?_
        refine lv_topi (fun v11 ev11 => ?_)
        refine lv_iload_n hx hb dX8_endOfRun_19 rfl (lv_at hl 2 rfl) ?_
        refine lv_icmp_lt (tgt := 39) hx hb dX8_endOfRun_20 (by decide) (fun c12 => ?_) (fun c12 => ?_)
        · have fc12 := z_lt (rfl : (v11).toInt = _) (by decide : (48 : Int32).toInt = 48) c12
          refine lv_iload_n hx hb dX8_endOfRun_39 rfl (lv_at hl 0 rfl) ?_
          exact W.iret (v := x8_3) hx hb hr (fun t ht9 hW => ⟨x8_3, rfl, ⟨⟨by omega, by omega⟩, (show Rn (fun j => ((fa 8 1) j).toInt) ((iv 8 2) : Int32).toInt 48 57 ((iv 8 5) : Int32).toInt (x8_3 : Int32).toInt from ⟨by omega, hq9_1, fun q => by have q2 : 48 ≤ (fa 8 1 ((x8_3 : Int32).toInt).toNat).toInt ∧ (fa 8 1 ((x8_3 : Int32).toInt).toNat).toInt ≤ 57 := q.2; have hv9 := congrArg Int32.toInt (show v11 = (fa 8 1) ((x8_3 : Int32).toInt).toNat from ev11); omega⟩), (show ((iv 8 5) : Int32).toInt ≤ (x8_3 : Int32).toInt from by omega)⟩, ht9⟩) (fun q hq => by cases hq) dX8_endOfRun_40
        · have fc12 := z_nlt (rfl : (v11).toInt = _) (by decide : (48 : Int32).toInt = 48) c12
          refine lv_aload_n hx hb dX8_endOfRun_23 rfl (lv_at hl 1 rfl) ?_
          refine gX_8_1 hx hb ht hown hK hP m_229 dX8_endOfRun_24 ?_
          refine lv_iload_n hx hb dX8_endOfRun_27 rfl (lv_at hl 0 rfl) ?_
          refine lX_8_1 hx hb hK hP (f := (fa 8 1)) rfl (vp_in_iff.mpr ⟨by omega, by omega⟩) dX8_endOfRun_28 ?_
          refine lv_topi (fun v13 ev13 => ?_)
          obtain rfl : v11 = v13 := ev11.trans ev13.symm
          refine lv_iload_n hx hb dX8_endOfRun_29 rfl (lv_at hl 3 rfl) ?_
          refine lv_icmp_gt (tgt := 39) hx hb dX8_endOfRun_30 (by decide) (fun c14 => ?_) (fun c14 => ?_)
          · have fc14 := z_lt (by decide : (57 : Int32).toInt = 57) (rfl : (v11).toInt = _) c14
            refine lv_iload_n hx hb dX8_endOfRun_39 rfl (lv_at hl 0 rfl) ?_
            exact W.iret (v := x8_3) hx hb hr (fun t ht9 hW => ⟨x8_3, rfl, ⟨⟨by omega, by omega⟩, (show Rn (fun j => ((fa 8 1) j).toInt) ((iv 8 2) : Int32).toInt 48 57 ((iv 8 5) : Int32).toInt (x8_3 : Int32).toInt from ⟨by omega, hq9_1, fun q => by have q2 : 48 ≤ (fa 8 1 ((x8_3 : Int32).toInt).toNat).toInt ∧ (fa 8 1 ((x8_3 : Int32).toInt).toNat).toInt ≤ 57 := q.2; have hv9 := congrArg Int32.toInt (show v11 = (fa 8 1) ((x8_3 : Int32).toInt).toNat from ev11); omega⟩), (show ((iv 8 5) : Int32).toInt ≤ (x8_3 : Int32).toInt from by omega)⟩, ht9⟩) (fun q hq => by cases hq) dX8_endOfRun_40
          · have fc14 := z_nlt (by decide : (57 : Int32).toInt = 57) (rfl : (v11).toInt = _) c14
            obtain ⟨v15, ev15⟩ : ∃ y : Int32, y = x8_3 + 1 := ⟨_, rfl⟩
            have tv15 := z_add ev15 rfl (by decide : (1 : Int32).toInt = 1) (by omega) (by omega)
            refine lv_iinc (v := v15) (lv' := [(3, .int v15), (0, .ref (g 11 4)), (1, .int 48), (2, .int 57)]) hx hb dX8_endOfRun_33 hl (k := 0) rfl (by rw [ev15]; rfl) (by decide) rfl (fun ls hl => ?_)
            refine lv_goto (tgt := 5) hx hb dX8_endOfRun_36 (by decide) ?_
            exact ih9 v15 ⟨by omega, by omega⟩ (show ((iv 8 5) : Int32).toInt ≤ (v15 : Int32).toInt from by omega) (show ∀ j : Nat, ((iv 8 5) : Int32).toInt ≤ (j : Int) → (j : Int) < (v15 : Int32).toInt → (j : Int) < ((iv 8 2) : Int32).toInt ∧ 48 ≤ ((fa 8 1) j).toInt ∧ ((fa 8 1) j).toInt ≤ 57 from (fun j h1 h2 => by
                  by_cases hj : (j : Int) < (x8_3 : Int32).toInt
                  · exact hq9_1 j h1 hj
                  · have hj2 : j = ((x8_3 : Int32).toInt).toNat := by omega
                    have hv9 := congrArg Int32.toInt (show v11 = (fa 8 1) ((x8_3 : Int32).toInt).toNat from ev11)
                    rw [hj2]
                    exact ⟨by omega, by omega, by omega⟩)) (by omega) ls (lv_sub hl [0, 1, 2, 3] rfl)
  have i_8_2 : 0 ≤ (iv 8 2).toInt ∧ (iv 8 2).toInt ≤ 200 := hI.1 8 2
  exact lp9 201 (iv 8 5) ⟨by omega, by omega⟩ (show ((iv 8 5) : Int32).toInt ≤ ((iv 8 5) : Int32).toInt from by omega) (show ∀ j : Nat, ((iv 8 5) : Int32).toInt ≤ (j : Int) → (j : Int) < ((iv 8 5) : Int32).toInt → (j : Int) < ((iv 8 2) : Int32).toInt ∧ 48 ≤ ((fa 8 1) j).toInt ∧ ((fa 8 1) j).toInt ≤ 57 from fun j h1 h2 => absurd h1 (by omega)) (by first | decide | omega) ls (lv_sub hl [0, 1, 2, 3] rfl)
set_option maxHeartbeats 4000000 in
set_option maxRecDepth 100000 in
/-- X8_fail -/
theorem c_X8_fail_r (l : Launch) (dC : Nat → ClassId) (dI : Nat → Nat → Nat) (sz : Nat) (h : Nat) (g : Nat → Nat → Nat) (ca : Nat → Nat → ClassId) (iv : Nat → Nat → Int32) (lv : Nat → Nat → Int64) (fa : Nat → Nat → Nat → Int32) (la : Nat → Nat → Nat → Int64) (hI : IX iv fa) (a : Int32) (b : Int32) (h_a : 0 ≤ a.toInt ∧ a.toInt ≤ 5) (h_b : (-1) ≤ b.toInt ∧ b.toInt ≤ 200) : Met l yX8_fail (wc yX8_fail cX8_fail 3 (some .boolean)) ({ frames := 0, cells := 0, slots := 0, locals := 0 } : Room) (pW (dC, dI) classes (WX h g ca iv lv fa la) (TX ca) sz [.ref (g 11 4), .int a, .int b]) (va_Qi (fun r (u : SS) => ∃ (ni_8_3 : Int32) (ni_8_4 : Int32), inb (bI 8 3) ni_8_3 ∧ inb (bI 8 4) ni_8_4 ∧ ((ni_8_4).toInt = a.toInt) ∧ ((ni_8_3).toInt = b.toInt) ∧ (0 ≤ r.toInt ∧ r.toInt ≤ 0) ∧ u = ((u2 (u2 iv 8 3 ni_8_3) 8 4 ni_8_4), lv, fa, la)) (bX (dC, dI) h g ca (va_A (WX h g ca iv lv fa la) sz)) (va_A (WX h g ca iv lv fa la) sz)) 0 0 (va_A (WX h g ca iv lv fa la) sz) := by
  refine Met.ofW (cc := cX8_fail) (maxL := 3) (ret := (some .boolean)) (by decide) rfl ?_
  intro p e s m args below meth c s₁ B hml hv
  obtain ⟨rfl, hsz, hP, hK, hD0⟩ := hv
  have hx := B.exec
  have hb := B.bytes
  have hr := B.returns
  have ht := tb_tl (atoms_spec (ws := wc yX8_fail cX8_fail 3 (some .boolean)) B.pre)
  have hown : s.vm.findClass RX8 = some m.cls := findClass_of_methodNamed B.named
  have hlocks := B.notSynchronized
  subst hsz
  have hD := hD0.self (sz := s.heap.size)
  generalize hAe : va_A (WX h g ca iv lv fa la) s.heap.size = A at hD ⊢
  have hA : ∀ q : Nat, s.heap.size ≤ q → A q := fun q h => by rw [← hAe]; exact Or.inr h
  have hS : va_S A s.heap s.heap [] := va_S.rf
  have hl := lv_entry [.ref (g 11 4), .int a, .int b] (n := 3) (Nat.le_of_ble_eq_true rfl)
  rw [lg_entry_eq]
  generalize (lg_sl [.ref (g 11 4), .int a, .int b] ++ List.replicate (3 - (lg_sl [.ref (g 11 4), .int a, .int b]).length) Slot.unset).toArray = ls at hl ⊢
  have hl : lv_has ls 3 [(0, .ref (g 11 4)), (1, .int a), (2, .int b)] := hl
  refine lv_aload_n hx hb dX8_fail_0 rfl (lv_at hl 0 rfl) ?_
  refine lv_iload_n hx hb dX8_fail_1 rfl (lv_at hl 1 rfl) ?_
  refine pX_8_4 (v := a) hx hb ht hown hK hP hD hS m_234 dX8_fail_2 (fun H locs hP hD hS => ?_)
  refine lv_aload_n hx hb dX8_fail_5 rfl (lv_at hl 0 rfl) ?_
  refine lv_iload_n hx hb dX8_fail_6 rfl (lv_at hl 2 rfl) ?_
  refine pX_8_3 (v := b) hx hb ht hown hK hP hD hS m_232 dX8_fail_7 (fun H locs hP hD hS => ?_)
  refine lv_iconst (v := 0) hx hb dX8_fail_10 (by decide) ?_
  have hP9 : va_P (dC, dI) classes (WX h g ca (u2 (u2 iv 8 3 b) 8 4 a) lv fa la) H := hP
  have hD9 : va_D A (WX h g ca (u2 (u2 iv 8 3 b) 8 4 a) lv fa la) := hD
  exact W.zret (v := 0) hx hb hr rfl (fun t ht9 hW => ⟨⟨0, ((u2 (u2 iv 8 3 b) 8 4 a), lv, fa, la), rfl, ⟨b, a, (show inb ((-1), 200) b from ⟨by omega, by omega⟩), (show inb (0, 5) a from ⟨by omega, by omega⟩), (show (a : Int32).toInt = (a).toInt from by omega), (show (b : Int32).toInt = (b).toInt from by omega), ⟨by decide, by decide⟩, rfl⟩, by rw [ht9]; exact hP9, hD9⟩, hS.F ht9⟩) hS.2.2 dX8_fail_11
def WdG (t : Nat → Int) (s e m : Int) (L : Nat → Int) : Prop := e - s = m ∧ ∀ j : Nat, (j : Int) < m → t (s.toNat + j) = L j
/-- the signs of a string of words, from a on -/
def LsW (J : Nat) (a : Int) (j : Nat) : Int := ((S_byt.getD J []).getD (a.toNat + j) 0).toInt
theorem cs_0_0 {t : Nat → Int} {s e R : Int} (h : (R = 1 ∧ WdG t s e ((3 : Int32).toInt - (0 : Int32).toInt) (LsW 0 (0 : Int32).toInt)) ∨ (R = 0 ∧ ¬ WdG t s e ((3 : Int32).toInt - (0 : Int32).toInt) (LsW 0 (0 : Int32).toInt))) : (R = 1 ∧ w_let t s e) ∨ (R = 0 ∧ ¬ w_let t s e) := by
  have hm : (3 : Int32).toInt - (0 : Int32).toInt = 3 := (by decide)
  have c : WdG t s e ((3 : Int32).toInt - (0 : Int32).toInt) (LsW 0 (0 : Int32).toInt) ↔ w_let t s e := by
    constructor
    · intro h
      exact ⟨h.1.trans hm, (h.2 0 (by omega)).trans (show LsW 0 (0 : Int32).toInt 0 = 108 from by decide +kernel), (h.2 1 (by omega)).trans (show LsW 0 (0 : Int32).toInt 1 = 101 from by decide +kernel), (h.2 2 (by omega)).trans (show LsW 0 (0 : Int32).toInt 2 = 116 from by decide +kernel)⟩
    · intro h
      obtain ⟨h0, q0, q1, q2⟩ := h
      refine ⟨h0.trans hm.symm, fun j hj => ?_⟩
      rcases (by omega : j = 0 ∨ j = 1 ∨ j = 2) with rfl | rfl | rfl
      · exact q0.trans (show (108 : Int) = LsW 0 (0 : Int32).toInt 0 from by decide +kernel)
      · exact q1.trans (show (101 : Int) = LsW 0 (0 : Int32).toInt 1 from by decide +kernel)
      · exact q2.trans (show (116 : Int) = LsW 0 (0 : Int32).toInt 2 from by decide +kernel)
  rw [c] at h; exact h
theorem cs_0_4 {t : Nat → Int} {s e R : Int} (h : (R = 1 ∧ WdG t s e ((8 : Int32).toInt - (4 : Int32).toInt) (LsW 0 (4 : Int32).toInt)) ∨ (R = 0 ∧ ¬ WdG t s e ((8 : Int32).toInt - (4 : Int32).toInt) (LsW 0 (4 : Int32).toInt))) : (R = 1 ∧ w_take t s e) ∨ (R = 0 ∧ ¬ w_take t s e) := by
  have hm : (8 : Int32).toInt - (4 : Int32).toInt = 4 := (by decide)
  have c : WdG t s e ((8 : Int32).toInt - (4 : Int32).toInt) (LsW 0 (4 : Int32).toInt) ↔ w_take t s e := by
    constructor
    · intro h
      exact ⟨h.1.trans hm, (h.2 0 (by omega)).trans (show LsW 0 (4 : Int32).toInt 0 = 116 from by decide +kernel), (h.2 1 (by omega)).trans (show LsW 0 (4 : Int32).toInt 1 = 97 from by decide +kernel), (h.2 2 (by omega)).trans (show LsW 0 (4 : Int32).toInt 2 = 107 from by decide +kernel), (h.2 3 (by omega)).trans (show LsW 0 (4 : Int32).toInt 3 = 101 from by decide +kernel)⟩
    · intro h
      obtain ⟨h0, q0, q1, q2, q3⟩ := h
      refine ⟨h0.trans hm.symm, fun j hj => ?_⟩
      rcases (by omega : j = 0 ∨ j = 1 ∨ j = 2 ∨ j = 3) with rfl | rfl | rfl | rfl
      · exact q0.trans (show (116 : Int) = LsW 0 (4 : Int32).toInt 0 from by decide +kernel)
      · exact q1.trans (show (97 : Int) = LsW 0 (4 : Int32).toInt 1 from by decide +kernel)
      · exact q2.trans (show (107 : Int) = LsW 0 (4 : Int32).toInt 2 from by decide +kernel)
      · exact q3.trans (show (101 : Int) = LsW 0 (4 : Int32).toInt 3 from by decide +kernel)
  rw [c] at h; exact h
theorem cs_0_9 {t : Nat → Int} {s e R : Int} (h : (R = 1 ∧ WdG t s e ((13 : Int32).toInt - (9 : Int32).toInt) (LsW 0 (9 : Int32).toInt)) ∨ (R = 0 ∧ ¬ WdG t s e ((13 : Int32).toInt - (9 : Int32).toInt) (LsW 0 (9 : Int32).toInt))) : (R = 1 ∧ w_name t s e) ∨ (R = 0 ∧ ¬ w_name t s e) := by
  have hm : (13 : Int32).toInt - (9 : Int32).toInt = 4 := (by decide)
  have c : WdG t s e ((13 : Int32).toInt - (9 : Int32).toInt) (LsW 0 (9 : Int32).toInt) ↔ w_name t s e := by
    constructor
    · intro h
      exact ⟨h.1.trans hm, (h.2 0 (by omega)).trans (show LsW 0 (9 : Int32).toInt 0 = 110 from by decide +kernel), (h.2 1 (by omega)).trans (show LsW 0 (9 : Int32).toInt 1 = 97 from by decide +kernel), (h.2 2 (by omega)).trans (show LsW 0 (9 : Int32).toInt 2 = 109 from by decide +kernel), (h.2 3 (by omega)).trans (show LsW 0 (9 : Int32).toInt 3 = 101 from by decide +kernel)⟩
    · intro h
      obtain ⟨h0, q0, q1, q2, q3⟩ := h
      refine ⟨h0.trans hm.symm, fun j hj => ?_⟩
      rcases (by omega : j = 0 ∨ j = 1 ∨ j = 2 ∨ j = 3) with rfl | rfl | rfl | rfl
      · exact q0.trans (show (110 : Int) = LsW 0 (9 : Int32).toInt 0 from by decide +kernel)
      · exact q1.trans (show (97 : Int) = LsW 0 (9 : Int32).toInt 1 from by decide +kernel)
      · exact q2.trans (show (109 : Int) = LsW 0 (9 : Int32).toInt 2 from by decide +kernel)
      · exact q3.trans (show (101 : Int) = LsW 0 (9 : Int32).toInt 3 from by decide +kernel)
  rw [c] at h; exact h
theorem cs_0_14 {t : Nat → Int} {s e R : Int} (h : (R = 1 ∧ WdG t s e ((20 : Int32).toInt - (14 : Int32).toInt) (LsW 0 (14 : Int32).toInt)) ∨ (R = 0 ∧ ¬ WdG t s e ((20 : Int32).toInt - (14 : Int32).toInt) (LsW 0 (14 : Int32).toInt))) : (R = 1 ∧ w_strike t s e) ∨ (R = 0 ∧ ¬ w_strike t s e) := by
  have hm : (20 : Int32).toInt - (14 : Int32).toInt = 6 := (by decide)
  have c : WdG t s e ((20 : Int32).toInt - (14 : Int32).toInt) (LsW 0 (14 : Int32).toInt) ↔ w_strike t s e := by
    constructor
    · intro h
      exact ⟨h.1.trans hm, (h.2 0 (by omega)).trans (show LsW 0 (14 : Int32).toInt 0 = 115 from by decide +kernel), (h.2 1 (by omega)).trans (show LsW 0 (14 : Int32).toInt 1 = 116 from by decide +kernel), (h.2 2 (by omega)).trans (show LsW 0 (14 : Int32).toInt 2 = 114 from by decide +kernel), (h.2 3 (by omega)).trans (show LsW 0 (14 : Int32).toInt 3 = 105 from by decide +kernel), (h.2 4 (by omega)).trans (show LsW 0 (14 : Int32).toInt 4 = 107 from by decide +kernel), (h.2 5 (by omega)).trans (show LsW 0 (14 : Int32).toInt 5 = 101 from by decide +kernel)⟩
    · intro h
      obtain ⟨h0, q0, q1, q2, q3, q4, q5⟩ := h
      refine ⟨h0.trans hm.symm, fun j hj => ?_⟩
      rcases (by omega : j = 0 ∨ j = 1 ∨ j = 2 ∨ j = 3 ∨ j = 4 ∨ j = 5) with rfl | rfl | rfl | rfl | rfl | rfl
      · exact q0.trans (show (115 : Int) = LsW 0 (14 : Int32).toInt 0 from by decide +kernel)
      · exact q1.trans (show (116 : Int) = LsW 0 (14 : Int32).toInt 1 from by decide +kernel)
      · exact q2.trans (show (114 : Int) = LsW 0 (14 : Int32).toInt 2 from by decide +kernel)
      · exact q3.trans (show (105 : Int) = LsW 0 (14 : Int32).toInt 3 from by decide +kernel)
      · exact q4.trans (show (107 : Int) = LsW 0 (14 : Int32).toInt 4 from by decide +kernel)
      · exact q5.trans (show (101 : Int) = LsW 0 (14 : Int32).toInt 5 from by decide +kernel)
  rw [c] at h; exact h
theorem cs_1_0 {t : Nat → Int} {s e R : Int} (h : (R = 1 ∧ WdG t s e ((5 : Int32).toInt - (0 : Int32).toInt) (LsW 1 (0 : Int32).toInt)) ∨ (R = 0 ∧ ¬ WdG t s e ((5 : Int32).toInt - (0 : Int32).toInt) (LsW 1 (0 : Int32).toInt))) : (R = 1 ∧ w_water t s e) ∨ (R = 0 ∧ ¬ w_water t s e) := by
  have hm : (5 : Int32).toInt - (0 : Int32).toInt = 5 := (by decide)
  have c : WdG t s e ((5 : Int32).toInt - (0 : Int32).toInt) (LsW 1 (0 : Int32).toInt) ↔ w_water t s e := by
    constructor
    · intro h
      exact ⟨h.1.trans hm, (h.2 0 (by omega)).trans (show LsW 1 (0 : Int32).toInt 0 = 119 from by decide +kernel), (h.2 1 (by omega)).trans (show LsW 1 (0 : Int32).toInt 1 = 97 from by decide +kernel), (h.2 2 (by omega)).trans (show LsW 1 (0 : Int32).toInt 2 = 116 from by decide +kernel), (h.2 3 (by omega)).trans (show LsW 1 (0 : Int32).toInt 3 = 101 from by decide +kernel), (h.2 4 (by omega)).trans (show LsW 1 (0 : Int32).toInt 4 = 114 from by decide +kernel)⟩
    · intro h
      obtain ⟨h0, q0, q1, q2, q3, q4⟩ := h
      refine ⟨h0.trans hm.symm, fun j hj => ?_⟩
      rcases (by omega : j = 0 ∨ j = 1 ∨ j = 2 ∨ j = 3 ∨ j = 4) with rfl | rfl | rfl | rfl | rfl
      · exact q0.trans (show (119 : Int) = LsW 1 (0 : Int32).toInt 0 from by decide +kernel)
      · exact q1.trans (show (97 : Int) = LsW 1 (0 : Int32).toInt 1 from by decide +kernel)
      · exact q2.trans (show (116 : Int) = LsW 1 (0 : Int32).toInt 2 from by decide +kernel)
      · exact q3.trans (show (101 : Int) = LsW 1 (0 : Int32).toInt 3 from by decide +kernel)
      · exact q4.trans (show (114 : Int) = LsW 1 (0 : Int32).toInt 4 from by decide +kernel)
  rw [c] at h; exact h
theorem cs_1_6 {t : Nat → Int} {s e R : Int} (h : (R = 1 ∧ WdG t s e ((12 : Int32).toInt - (6 : Int32).toInt) (LsW 1 (6 : Int32).toInt)) ∨ (R = 0 ∧ ¬ WdG t s e ((12 : Int32).toInt - (6 : Int32).toInt) (LsW 1 (6 : Int32).toInt))) : (R = 1 ∧ w_skeins t s e) ∨ (R = 0 ∧ ¬ w_skeins t s e) := by
  have hm : (12 : Int32).toInt - (6 : Int32).toInt = 6 := (by decide)
  have c : WdG t s e ((12 : Int32).toInt - (6 : Int32).toInt) (LsW 1 (6 : Int32).toInt) ↔ w_skeins t s e := by
    constructor
    · intro h
      exact ⟨h.1.trans hm, (h.2 0 (by omega)).trans (show LsW 1 (6 : Int32).toInt 0 = 115 from by decide +kernel), (h.2 1 (by omega)).trans (show LsW 1 (6 : Int32).toInt 1 = 107 from by decide +kernel), (h.2 2 (by omega)).trans (show LsW 1 (6 : Int32).toInt 2 = 101 from by decide +kernel), (h.2 3 (by omega)).trans (show LsW 1 (6 : Int32).toInt 3 = 105 from by decide +kernel), (h.2 4 (by omega)).trans (show LsW 1 (6 : Int32).toInt 4 = 110 from by decide +kernel), (h.2 5 (by omega)).trans (show LsW 1 (6 : Int32).toInt 5 = 115 from by decide +kernel)⟩
    · intro h
      obtain ⟨h0, q0, q1, q2, q3, q4, q5⟩ := h
      refine ⟨h0.trans hm.symm, fun j hj => ?_⟩
      rcases (by omega : j = 0 ∨ j = 1 ∨ j = 2 ∨ j = 3 ∨ j = 4 ∨ j = 5) with rfl | rfl | rfl | rfl | rfl | rfl
      · exact q0.trans (show (115 : Int) = LsW 1 (6 : Int32).toInt 0 from by decide +kernel)
      · exact q1.trans (show (107 : Int) = LsW 1 (6 : Int32).toInt 1 from by decide +kernel)
      · exact q2.trans (show (101 : Int) = LsW 1 (6 : Int32).toInt 2 from by decide +kernel)
      · exact q3.trans (show (105 : Int) = LsW 1 (6 : Int32).toInt 3 from by decide +kernel)
      · exact q4.trans (show (110 : Int) = LsW 1 (6 : Int32).toInt 4 from by decide +kernel)
      · exact q5.trans (show (115 : Int) = LsW 1 (6 : Int32).toInt 5 from by decide +kernel)
  rw [c] at h; exact h
theorem cs_1_13 {t : Nat → Int} {s e R : Int} (h : (R = 1 ∧ WdG t s e ((17 : Int32).toInt - (13 : Int32).toInt) (LsW 1 (13 : Int32).toInt)) ∨ (R = 0 ∧ ¬ WdG t s e ((17 : Int32).toInt - (13 : Int32).toInt) (LsW 1 (13 : Int32).toInt))) : (R = 1 ∧ w_part t s e) ∨ (R = 0 ∧ ¬ w_part t s e) := by
  have hm : (17 : Int32).toInt - (13 : Int32).toInt = 4 := (by decide)
  have c : WdG t s e ((17 : Int32).toInt - (13 : Int32).toInt) (LsW 1 (13 : Int32).toInt) ↔ w_part t s e := by
    constructor
    · intro h
      exact ⟨h.1.trans hm, (h.2 0 (by omega)).trans (show LsW 1 (13 : Int32).toInt 0 = 112 from by decide +kernel), (h.2 1 (by omega)).trans (show LsW 1 (13 : Int32).toInt 1 = 97 from by decide +kernel), (h.2 2 (by omega)).trans (show LsW 1 (13 : Int32).toInt 2 = 114 from by decide +kernel), (h.2 3 (by omega)).trans (show LsW 1 (13 : Int32).toInt 3 = 116 from by decide +kernel)⟩
    · intro h
      obtain ⟨h0, q0, q1, q2, q3⟩ := h
      refine ⟨h0.trans hm.symm, fun j hj => ?_⟩
      rcases (by omega : j = 0 ∨ j = 1 ∨ j = 2 ∨ j = 3) with rfl | rfl | rfl | rfl
      · exact q0.trans (show (112 : Int) = LsW 1 (13 : Int32).toInt 0 from by decide +kernel)
      · exact q1.trans (show (97 : Int) = LsW 1 (13 : Int32).toInt 1 from by decide +kernel)
      · exact q2.trans (show (114 : Int) = LsW 1 (13 : Int32).toInt 2 from by decide +kernel)
      · exact q3.trans (show (116 : Int) = LsW 1 (13 : Int32).toInt 3 from by decide +kernel)
  rw [c] at h; exact h
theorem cs_1_18 {t : Nat → Int} {s e R : Int} (h : (R = 1 ∧ WdG t s e ((23 : Int32).toInt - (18 : Int32).toInt) (LsW 1 (18 : Int32).toInt)) ∨ (R = 0 ∧ ¬ WdG t s e ((23 : Int32).toInt - (18 : Int32).toInt) (LsW 1 (18 : Int32).toInt))) : (R = 1 ∧ w_looks t s e) ∨ (R = 0 ∧ ¬ w_looks t s e) := by
  have hm : (23 : Int32).toInt - (18 : Int32).toInt = 5 := (by decide)
  have c : WdG t s e ((23 : Int32).toInt - (18 : Int32).toInt) (LsW 1 (18 : Int32).toInt) ↔ w_looks t s e := by
    constructor
    · intro h
      exact ⟨h.1.trans hm, (h.2 0 (by omega)).trans (show LsW 1 (18 : Int32).toInt 0 = 108 from by decide +kernel), (h.2 1 (by omega)).trans (show LsW 1 (18 : Int32).toInt 1 = 111 from by decide +kernel), (h.2 2 (by omega)).trans (show LsW 1 (18 : Int32).toInt 2 = 111 from by decide +kernel), (h.2 3 (by omega)).trans (show LsW 1 (18 : Int32).toInt 3 = 107 from by decide +kernel), (h.2 4 (by omega)).trans (show LsW 1 (18 : Int32).toInt 4 = 115 from by decide +kernel)⟩
    · intro h
      obtain ⟨h0, q0, q1, q2, q3, q4⟩ := h
      refine ⟨h0.trans hm.symm, fun j hj => ?_⟩
      rcases (by omega : j = 0 ∨ j = 1 ∨ j = 2 ∨ j = 3 ∨ j = 4) with rfl | rfl | rfl | rfl | rfl
      · exact q0.trans (show (108 : Int) = LsW 1 (18 : Int32).toInt 0 from by decide +kernel)
      · exact q1.trans (show (111 : Int) = LsW 1 (18 : Int32).toInt 1 from by decide +kernel)
      · exact q2.trans (show (111 : Int) = LsW 1 (18 : Int32).toInt 2 from by decide +kernel)
      · exact q3.trans (show (107 : Int) = LsW 1 (18 : Int32).toInt 3 from by decide +kernel)
      · exact q4.trans (show (115 : Int) = LsW 1 (18 : Int32).toInt 4 from by decide +kernel)
  rw [c] at h; exact h
theorem cs_1_24 {t : Nat → Int} {s e R : Int} (h : (R = 1 ∧ WdG t s e ((27 : Int32).toInt - (24 : Int32).toInt) (LsW 1 (24 : Int32).toInt)) ∨ (R = 0 ∧ ¬ WdG t s e ((27 : Int32).toInt - (24 : Int32).toInt) (LsW 1 (24 : Int32).toInt))) : (R = 1 ∧ w_fee t s e) ∨ (R = 0 ∧ ¬ w_fee t s e) := by
  have hm : (27 : Int32).toInt - (24 : Int32).toInt = 3 := (by decide)
  have c : WdG t s e ((27 : Int32).toInt - (24 : Int32).toInt) (LsW 1 (24 : Int32).toInt) ↔ w_fee t s e := by
    constructor
    · intro h
      exact ⟨h.1.trans hm, (h.2 0 (by omega)).trans (show LsW 1 (24 : Int32).toInt 0 = 102 from by decide +kernel), (h.2 1 (by omega)).trans (show LsW 1 (24 : Int32).toInt 1 = 101 from by decide +kernel), (h.2 2 (by omega)).trans (show LsW 1 (24 : Int32).toInt 2 = 101 from by decide +kernel)⟩
    · intro h
      obtain ⟨h0, q0, q1, q2⟩ := h
      refine ⟨h0.trans hm.symm, fun j hj => ?_⟩
      rcases (by omega : j = 0 ∨ j = 1 ∨ j = 2) with rfl | rfl | rfl
      · exact q0.trans (show (102 : Int) = LsW 1 (24 : Int32).toInt 0 from by decide +kernel)
      · exact q1.trans (show (101 : Int) = LsW 1 (24 : Int32).toInt 1 from by decide +kernel)
      · exact q2.trans (show (101 : Int) = LsW 1 (24 : Int32).toInt 2 from by decide +kernel)
  rw [c] at h; exact h
theorem cs_2_0 {t : Nat → Int} {s e R : Int} (h : (R = 1 ∧ WdG t s e ((4 : Int32).toInt - (0 : Int32).toInt) (LsW 2 (0 : Int32).toInt)) ∨ (R = 0 ∧ ¬ WdG t s e ((4 : Int32).toInt - (0 : Int32).toInt) (LsW 2 (0 : Int32).toInt))) : (R = 1 ∧ w_mean t s e) ∨ (R = 0 ∧ ¬ w_mean t s e) := by
  have hm : (4 : Int32).toInt - (0 : Int32).toInt = 4 := (by decide)
  have c : WdG t s e ((4 : Int32).toInt - (0 : Int32).toInt) (LsW 2 (0 : Int32).toInt) ↔ w_mean t s e := by
    constructor
    · intro h
      exact ⟨h.1.trans hm, (h.2 0 (by omega)).trans (show LsW 2 (0 : Int32).toInt 0 = 109 from by decide +kernel), (h.2 1 (by omega)).trans (show LsW 2 (0 : Int32).toInt 1 = 101 from by decide +kernel), (h.2 2 (by omega)).trans (show LsW 2 (0 : Int32).toInt 2 = 97 from by decide +kernel), (h.2 3 (by omega)).trans (show LsW 2 (0 : Int32).toInt 3 = 110 from by decide +kernel)⟩
    · intro h
      obtain ⟨h0, q0, q1, q2, q3⟩ := h
      refine ⟨h0.trans hm.symm, fun j hj => ?_⟩
      rcases (by omega : j = 0 ∨ j = 1 ∨ j = 2 ∨ j = 3) with rfl | rfl | rfl | rfl
      · exact q0.trans (show (109 : Int) = LsW 2 (0 : Int32).toInt 0 from by decide +kernel)
      · exact q1.trans (show (101 : Int) = LsW 2 (0 : Int32).toInt 1 from by decide +kernel)
      · exact q2.trans (show (97 : Int) = LsW 2 (0 : Int32).toInt 2 from by decide +kernel)
      · exact q3.trans (show (110 : Int) = LsW 2 (0 : Int32).toInt 3 from by decide +kernel)
  rw [c] at h; exact h
theorem cs_2_5 {t : Nat → Int} {s e R : Int} (h : (R = 1 ∧ WdG t s e ((10 : Int32).toInt - (5 : Int32).toInt) (LsW 2 (5 : Int32).toInt)) ∨ (R = 0 ∧ ¬ WdG t s e ((10 : Int32).toInt - (5 : Int32).toInt) (LsW 2 (5 : Int32).toInt))) : (R = 1 ∧ w_least t s e) ∨ (R = 0 ∧ ¬ w_least t s e) := by
  have hm : (10 : Int32).toInt - (5 : Int32).toInt = 5 := (by decide)
  have c : WdG t s e ((10 : Int32).toInt - (5 : Int32).toInt) (LsW 2 (5 : Int32).toInt) ↔ w_least t s e := by
    constructor
    · intro h
      exact ⟨h.1.trans hm, (h.2 0 (by omega)).trans (show LsW 2 (5 : Int32).toInt 0 = 108 from by decide +kernel), (h.2 1 (by omega)).trans (show LsW 2 (5 : Int32).toInt 1 = 101 from by decide +kernel), (h.2 2 (by omega)).trans (show LsW 2 (5 : Int32).toInt 2 = 97 from by decide +kernel), (h.2 3 (by omega)).trans (show LsW 2 (5 : Int32).toInt 3 = 115 from by decide +kernel), (h.2 4 (by omega)).trans (show LsW 2 (5 : Int32).toInt 4 = 116 from by decide +kernel)⟩
    · intro h
      obtain ⟨h0, q0, q1, q2, q3, q4⟩ := h
      refine ⟨h0.trans hm.symm, fun j hj => ?_⟩
      rcases (by omega : j = 0 ∨ j = 1 ∨ j = 2 ∨ j = 3 ∨ j = 4) with rfl | rfl | rfl | rfl | rfl
      · exact q0.trans (show (108 : Int) = LsW 2 (5 : Int32).toInt 0 from by decide +kernel)
      · exact q1.trans (show (101 : Int) = LsW 2 (5 : Int32).toInt 1 from by decide +kernel)
      · exact q2.trans (show (97 : Int) = LsW 2 (5 : Int32).toInt 2 from by decide +kernel)
      · exact q3.trans (show (115 : Int) = LsW 2 (5 : Int32).toInt 3 from by decide +kernel)
      · exact q4.trans (show (116 : Int) = LsW 2 (5 : Int32).toInt 4 from by decide +kernel)
  rw [c] at h; exact h
theorem cs_2_11 {t : Nat → Int} {s e R : Int} (h : (R = 1 ∧ WdG t s e ((17 : Int32).toInt - (11 : Int32).toInt) (LsW 2 (11 : Int32).toInt)) ∨ (R = 0 ∧ ¬ WdG t s e ((17 : Int32).toInt - (11 : Int32).toInt) (LsW 2 (11 : Int32).toInt))) : (R = 1 ∧ w_middle t s e) ∨ (R = 0 ∧ ¬ w_middle t s e) := by
  have hm : (17 : Int32).toInt - (11 : Int32).toInt = 6 := (by decide)
  have c : WdG t s e ((17 : Int32).toInt - (11 : Int32).toInt) (LsW 2 (11 : Int32).toInt) ↔ w_middle t s e := by
    constructor
    · intro h
      exact ⟨h.1.trans hm, (h.2 0 (by omega)).trans (show LsW 2 (11 : Int32).toInt 0 = 109 from by decide +kernel), (h.2 1 (by omega)).trans (show LsW 2 (11 : Int32).toInt 1 = 105 from by decide +kernel), (h.2 2 (by omega)).trans (show LsW 2 (11 : Int32).toInt 2 = 100 from by decide +kernel), (h.2 3 (by omega)).trans (show LsW 2 (11 : Int32).toInt 3 = 100 from by decide +kernel), (h.2 4 (by omega)).trans (show LsW 2 (11 : Int32).toInt 4 = 108 from by decide +kernel), (h.2 5 (by omega)).trans (show LsW 2 (11 : Int32).toInt 5 = 101 from by decide +kernel)⟩
    · intro h
      obtain ⟨h0, q0, q1, q2, q3, q4, q5⟩ := h
      refine ⟨h0.trans hm.symm, fun j hj => ?_⟩
      rcases (by omega : j = 0 ∨ j = 1 ∨ j = 2 ∨ j = 3 ∨ j = 4 ∨ j = 5) with rfl | rfl | rfl | rfl | rfl | rfl
      · exact q0.trans (show (109 : Int) = LsW 2 (11 : Int32).toInt 0 from by decide +kernel)
      · exact q1.trans (show (105 : Int) = LsW 2 (11 : Int32).toInt 1 from by decide +kernel)
      · exact q2.trans (show (100 : Int) = LsW 2 (11 : Int32).toInt 2 from by decide +kernel)
      · exact q3.trans (show (100 : Int) = LsW 2 (11 : Int32).toInt 3 from by decide +kernel)
      · exact q4.trans (show (108 : Int) = LsW 2 (11 : Int32).toInt 4 from by decide +kernel)
      · exact q5.trans (show (101 : Int) = LsW 2 (11 : Int32).toInt 5 from by decide +kernel)
  rw [c] at h; exact h
theorem cs_3_0 {t : Nat → Int} {s e R : Int} (h : (R = 1 ∧ WdG t s e ((2 : Int32).toInt - (0 : Int32).toInt) (LsW 3 (0 : Int32).toInt)) ∨ (R = 0 ∧ ¬ WdG t s e ((2 : Int32).toInt - (0 : Int32).toInt) (LsW 3 (0 : Int32).toInt))) : (R = 1 ∧ w_to t s e) ∨ (R = 0 ∧ ¬ w_to t s e) := by
  have hm : (2 : Int32).toInt - (0 : Int32).toInt = 2 := (by decide)
  have c : WdG t s e ((2 : Int32).toInt - (0 : Int32).toInt) (LsW 3 (0 : Int32).toInt) ↔ w_to t s e := by
    constructor
    · intro h
      exact ⟨h.1.trans hm, (h.2 0 (by omega)).trans (show LsW 3 (0 : Int32).toInt 0 = 116 from by decide +kernel), (h.2 1 (by omega)).trans (show LsW 3 (0 : Int32).toInt 1 = 111 from by decide +kernel)⟩
    · intro h
      obtain ⟨h0, q0, q1⟩ := h
      refine ⟨h0.trans hm.symm, fun j hj => ?_⟩
      rcases (by omega : j = 0 ∨ j = 1) with rfl | rfl
      · exact q0.trans (show (116 : Int) = LsW 3 (0 : Int32).toInt 0 from by decide +kernel)
      · exact q1.trans (show (111 : Int) = LsW 3 (0 : Int32).toInt 1 from by decide +kernel)
  rw [c] at h; exact h
set_option maxHeartbeats 4000000 in
set_option maxRecDepth 100000 in
/-- X8_isSame -/
theorem c_X8_isSame_g0 (l : Launch) (dC : Nat → ClassId) (dI : Nat → Nat → Nat) (ak av : Nat → Nat) (h : Nat) (g : Nat → Nat → Nat) (ca : Nat → Nat → ClassId) (iv : Nat → Nat → Int32) (lv : Nat → Nat → Int64) (fa : Nat → Nat → Nat → Int32) (la : Nat → Nat → Nat → Int64) (hI : IX iv fa) (a : Int32) (b : Int32) (d : Int32) (h_a : 0 ≤ a.toInt ∧ a.toInt ≤ 21) (h_b : 0 ≤ b.toInt ∧ b.toInt ≤ 20) (h_d : 0 ≤ d.toInt ∧ d.toInt ≤ 200) : Met l yX8_isSame (wc yX8_isSame cX8_isSame 6 (some .boolean)) ({ frames := 4, cells := 0, slots := 0, locals := 85 } : Room) (pRZ ak av (dC, dI) classes (WX h g ca iv lv fa la) (TX ca) [.ref (g 11 4), .ref (ak 0), .int a, .int b, .int d]) (vp_Si (fun r => (0 ≤ r.toInt ∧ r.toInt ≤ 1) ∧ (((r.toInt = 1 ∧ WdG (fun j => ((fa 8 1) j).toInt) (iv 8 5).toInt d.toInt (b.toInt - a.toInt) (LsW 0 a.toInt)) ∨ (r.toInt = 0 ∧ ¬ WdG (fun j => ((fa 8 1) j).toInt) (iv 8 5).toInt d.toInt (b.toInt - a.toInt) (LsW 0 a.toInt)))))) 0 0 (fun _ => False) := by
  refine Met.ofW (cc := cX8_isSame) (maxL := 6) (ret := (some .boolean)) (by decide) rfl ?_
  intro p e s m args below meth c s₁ B hml hv
  obtain ⟨rfl, hP, hK, hZ⟩ := hv
  have hx := B.exec
  have hb := B.bytes
  have hr := B.returns
  have ht := tb_tl (atoms_spec (ws := wc yX8_isSame cX8_isSame 6 (some .boolean)) B.pre)
  have hown : s.vm.findClass RX8 = some m.cls := findClass_of_methodNamed B.named
  have hlocks := B.notSynchronized
  have hl := lv_entry [.ref (g 11 4), .ref (ak 0), .int a, .int b, .int d] (n := 6) (Nat.le_of_ble_eq_true rfl)
  rw [lg_entry_eq]
  generalize (lg_sl [.ref (g 11 4), .ref (ak 0), .int a, .int b, .int d] ++ List.replicate (6 - (lg_sl [.ref (g 11 4), .ref (ak 0), .int a, .int b, .int d]).length) Slot.unset).toArray = ls at hl ⊢
  have hl : lv_has ls 6 [(0, .ref (g 11 4)), (1, .ref (ak 0)), (2, .int a), (3, .int b), (4, .int d)] := hl
  refine lv_iload_n hx hb dX8_isSame_0 rfl (lv_at hl 3 rfl) ?_
  refine lv_iload_n hx hb dX8_isSame_1 rfl (lv_at hl 2 rfl) ?_
  refine lv_isub hx hb dX8_isSame_2 ?_
  refine lv_topi (fun v1 ev1 => ?_)
  have tv1 := z_sub ev1 (rfl : (b).toInt = _) (rfl : (a).toInt = _) (by omega) (by omega)
  refine lv_iload hx hb dX8_isSame_3 (lv_at hl 4 rfl) ?_
  refine lv_aload_n hx hb dX8_isSame_5 rfl (lv_at hl 0 rfl) ?_
  have i_8_5 : 0 ≤ (iv 8 5).toInt ∧ (iv 8 5).toInt ≤ 200 := hI.1 8 5
  refine gX_8_5 hx hb ht hown hK hP m_235 (v := (iv 8 5)) rfl dX8_isSame_6 ?_
  refine lv_isub hx hb dX8_isSame_9 ?_
  refine lv_topi (fun v2 ev2 => ?_)
  have tv2 := z_sub ev2 (rfl : (d).toInt = _) (rfl : ((iv 8 5)).toInt = _) (by omega) (by omega)
  refine lv_icmp_eq (tgt := 15) hx hb dX8_isSame_10 (by decide) (fun c3 => ?_) (fun c3 => ?_)
  · have fc3 := z_eq (rfl : (v1).toInt = _) (rfl : (v2).toInt = _) c3
    refine lv_iconst (v := 0) hx hb dX8_isSame_15 (by decide) ?_
    refine lv_istore (lv' := [(5, .int 0), (0, .ref (g 11 4)), (1, .ref (ak 0)), (2, .int a), (3, .int b), (4, .int d)]) hx hb dX8_isSame_16 hl (by decide) rfl (fun ls hl => ?_)
    have lp149 : ∀ (nn149 : Nat) (x148_5 : Int32), 0 ≤ x148_5.toInt ∧ x148_5.toInt ≤ 29 → (∀ j : Nat, (j : Int) < (x148_5 : Int32).toInt → (fun j => ((fa 8 1) j).toInt) ((((iv 8 5) : Int32).toInt).toNat + j) = LsW 0 (a).toInt j) → 29 - x148_5.toInt < (nn149 : Int) → ∀ (ls : Array Slot), lv_has ls 6 [(5, .int x148_5), (0, .ref (g 11 4)), (1, .ref (ak 0)), (2, .int a), (3, .int b), (4, .int d)] → W p l e ({ frames := 4, cells := 0, slots := 0, locals := 85 } : Room) s m ([.ref (g 11 4), .ref (ak 0), .int a, .int b, .int d] : List Value).toArray below meth c s.heap [] 0 0 (MQ below (vp_Si (fun r => (0 ≤ r.toInt ∧ r.toInt ≤ 1) ∧ (((r.toInt = 1 ∧ WdG (fun j => ((fa 8 1) j).toInt) (iv 8 5).toInt d.toInt (b.toInt - a.toInt) (LsW 0 a.toInt)) ∨ (r.toInt = 0 ∧ ¬ WdG (fun j => ((fa 8 1) j).toInt) (iv 8 5).toInt d.toInt (b.toInt - a.toInt) (LsW 0 a.toInt)))))) ([.ref (g 11 4), .ref (ak 0), .int a, .int b, .int d] : List Value).toArray s 0 0 (fun _ => False)) (F0 m 18 ls []) := by
      intro nn149
      induction nn149 with
      | zero => intro x148_5 hx148_5 hq149_0 hm149; exfalso; omega
      | succ nn149 ih149 =>
        intro x148_5 hx148_5 hq149_0 hm149 ls hl
        refine lv_iload hx hb dX8_isSame_18 (lv_at hl 0 rfl) ?_
        refine lv_iload_n hx hb dX8_isSame_20 rfl (lv_at hl 4 rfl) ?_
        refine lv_iload_n hx hb dX8_isSame_21 rfl (lv_at hl 3 rfl) ?_
        refine lv_isub hx hb dX8_isSame_22 ?_
        refine lv_topi (fun v150 ev150 => ?_)
        obtain rfl : v1 = v150 := ev1.trans ev150.symm
        refine lv_icmp_ge (tgt := 57) hx hb dX8_isSame_23 (by decide) (fun c151 => ?_) (fun c151 => ?_)
        · have fc151 := z_le (rfl : (v1).toInt = _) (rfl : (x148_5).toInt = _) c151
          refine lv_iconst (v := 1) hx hb dX8_isSame_57 (by decide) ?_
          have : (1 : Int32).toInt = 1 := (by decide)
          exact W.zret (v := 1) hx hb hr rfl (fun t ht9 hW => ⟨1, rfl, ⟨⟨by decide, by decide⟩, (show (((1 : Int32).toInt = 1 ∧ WdG (fun j => ((fa 8 1) j).toInt) ((iv 8 5) : Int32).toInt (d).toInt ((b).toInt - (a).toInt) (LsW 0 (a).toInt)) ∨ ((1 : Int32).toInt = 0 ∧ ¬ WdG (fun j => ((fa 8 1) j).toInt) ((iv 8 5) : Int32).toInt (d).toInt ((b).toInt - (a).toInt) (LsW 0 (a).toInt))) from (Or.inl ⟨by omega, by omega, fun j hj => hq149_0 j (by omega)⟩))⟩, ht9⟩) (fun q hq => by cases hq) dX8_isSame_58
        · have fc151 := z_nle (rfl : (v1).toInt = _) (rfl : (x148_5).toInt = _) c151
          refine lv_aload_n hx hb dX8_isSame_26 rfl (lv_at hl 2 rfl) ?_
          refine lv_iload_n hx hb dX8_isSame_27 rfl (lv_at hl 3 rfl) ?_
          refine lv_iload hx hb dX8_isSame_28 (lv_at hl 0 rfl) ?_
          refine lv_iadd hx hb dX8_isSame_30 ?_
          refine lv_topi (fun v152 ev152 => ?_)
          have tv152 := z_add ev152 (rfl : (a).toInt = _) (rfl : (x148_5).toInt = _) (by omega) (by omega)
          have : 0 ≤ (v152 : Int32).toInt ∧ (v152 : Int32).toInt ≤ 20 := ⟨by omega, by omega⟩
          refine vp_callSi (W.runV (As := [.int v152]) (rest := []) ⟨hx, hb, hml, hown, ht⟩ (c_J0_charAt_5068e_0 l dC dI ak av v152 ⟨by omega, by omega⟩) (kV 1 ht m_715 m_716 m_717 m_91 m_718 rfl rfl hd_J0_charAt_5068e_v ⟨Nat.le_of_ble_eq_true rfl, Nat.le_of_ble_eq_true rfl⟩) (vRZ noP (hK.sub (tys' := []) [] rfl) hZ (vk_recv hZ.1.2.2.2.2.2 (i := 0) (by decide) va_S.rf)) rfl rfl hl.1 rfl (lv_room (Nat.le_of_ble_eq_true rfl)) dX8_isSame_31 ⟨Nat.le_of_ble_eq_true rfl, Nat.le_of_ble_eq_true rfl⟩) (fun r153 hr153 => ?_)
          refine lv_aload_n hx hb dX8_isSame_34 rfl (lv_at hl 1 rfl) ?_
          refine gX_8_1 hx hb ht hown hK hP m_229 dX8_isSame_35 ?_
          refine lv_aload_n hx hb dX8_isSame_38 rfl (lv_at hl 1 rfl) ?_
          refine gX_8_5 hx hb ht hown hK hP m_235 (v := (iv 8 5)) rfl dX8_isSame_39 ?_
          refine lv_iload hx hb dX8_isSame_42 (lv_at hl 0 rfl) ?_
          refine lv_iadd hx hb dX8_isSame_44 ?_
          refine lv_topi (fun v154 ev154 => ?_)
          have tv154 := z_add ev154 (rfl : ((iv 8 5)).toInt = _) (rfl : (x148_5).toInt = _) (by omega) (by omega)
          have : 0 ≤ (v154 : Int32).toInt ∧ (v154 : Int32).toInt ≤ 199 := ⟨by omega, by omega⟩
          refine lX_8_1 hx hb hK hP (f := (fa 8 1)) rfl (vp_in_iff.mpr ⟨by omega, by omega⟩) dX8_isSame_45 ?_
          refine lv_topi (fun v155 ev155 => ?_)
          refine lv_icmp_eq (tgt := 51) hx hb dX8_isSame_46 (by decide) (fun c156 => ?_) (fun c156 => ?_)
          · have fc156 := z_eq (rfl : (r153).toInt = _) (rfl : (v155).toInt = _) c156
            obtain ⟨v157, ev157⟩ : ∃ y : Int32, y = x148_5 + 1 := ⟨_, rfl⟩
            have tv157 := z_add ev157 rfl (by decide : (1 : Int32).toInt = 1) (by omega) (by omega)
            refine lv_iinc (v := v157) (lv' := [(5, .int v157), (0, .ref (g 11 4)), (1, .ref (ak 0)), (2, .int a), (3, .int b), (4, .int d)]) hx hb dX8_isSame_51 hl (k := 0) rfl (by rw [ev157]; rfl) (by decide) rfl (fun ls hl => ?_)
            refine lv_goto (tgt := 18) hx hb dX8_isSame_54 (by decide) ?_
            exact ih149 v157 ⟨by omega, by omega⟩ (show ∀ j : Nat, (j : Int) < (v157 : Int32).toInt → (fun j => ((fa 8 1) j).toInt) ((((iv 8 5) : Int32).toInt).toNat + j) = LsW 0 (a).toInt j from (fun j hj => by
                  by_cases hj2 : (j : Int) < (x148_5 : Int32).toInt
                  · exact hq149_0 j hj2
                  · have hj3 : j = ((x148_5 : Int32).toInt).toNat := by omega
                    rw [hj3]
                    have q0 : (v155 : Int32).toInt = (fa 8 1 ((iv 8 5).toInt.toNat + ((x148_5 : Int32).toInt).toNat)).toInt := congrArg Int32.toInt (ev155.trans (congrArg (fa 8 1) (show (v154 : Int32).toNatClampNeg = (iv 8 5).toInt.toNat + ((x148_5 : Int32).toInt).toNat from (by show (v154 : Int32).toInt.toNat = _; omega))))
                    have q1 : (r153 : Int32).toInt = ((S_byt.getD 0 []).getD (a.toInt.toNat + ((x148_5 : Int32).toInt).toNat) 0).toInt := congrArg Int32.toInt (hr153.trans (congrArg (fun z => (S_byt.getD 0 []).getD z 0) (show (v152 : Int32).toNatClampNeg = a.toInt.toNat + ((x148_5 : Int32).toInt).toNat from (by show (v152 : Int32).toInt.toNat = _; omega))))
                    show (fa 8 1 ((iv 8 5).toInt.toNat + ((x148_5 : Int32).toInt).toNat)).toInt = ((S_byt.getD 0 []).getD (a.toInt.toNat + ((x148_5 : Int32).toInt).toNat) 0).toInt
                    omega)) (by omega) ls (lv_sub hl [0, 1, 2, 3, 4, 5] rfl)
          · have fc156 := z_ne (rfl : (r153).toInt = _) (rfl : (v155).toInt = _) c156
            refine lv_iconst (v := 0) hx hb dX8_isSame_49 (by decide) ?_
            have : (0 : Int32).toInt = 0 := (by decide)
            exact W.zret (v := 0) hx hb hr rfl (fun t ht9 hW => ⟨0, rfl, ⟨⟨by decide, by decide⟩, (show (((0 : Int32).toInt = 1 ∧ WdG (fun j => ((fa 8 1) j).toInt) ((iv 8 5) : Int32).toInt (d).toInt ((b).toInt - (a).toInt) (LsW 0 (a).toInt)) ∨ ((0 : Int32).toInt = 0 ∧ ¬ WdG (fun j => ((fa 8 1) j).toInt) ((iv 8 5) : Int32).toInt (d).toInt ((b).toInt - (a).toInt) (LsW 0 (a).toInt))) from (by
                  refine Or.inr ⟨by omega, fun h9 => ?_⟩
                  obtain ⟨-, h8⟩ := h9
                  have h7 : (fa 8 1 ((iv 8 5).toInt.toNat + ((x148_5 : Int32).toInt).toNat)).toInt = ((S_byt.getD 0 []).getD (a.toInt.toNat + ((x148_5 : Int32).toInt).toNat) 0).toInt := h8 ((x148_5 : Int32).toInt).toNat (by omega)
                  have q0 : (v155 : Int32).toInt = (fa 8 1 ((iv 8 5).toInt.toNat + ((x148_5 : Int32).toInt).toNat)).toInt := congrArg Int32.toInt (ev155.trans (congrArg (fa 8 1) (show (v154 : Int32).toNatClampNeg = (iv 8 5).toInt.toNat + ((x148_5 : Int32).toInt).toNat from (by show (v154 : Int32).toInt.toNat = _; omega))))
                  have q1 : (r153 : Int32).toInt = ((S_byt.getD 0 []).getD (a.toInt.toNat + ((x148_5 : Int32).toInt).toNat) 0).toInt := congrArg Int32.toInt (hr153.trans (congrArg (fun z => (S_byt.getD 0 []).getD z 0) (show (v152 : Int32).toNatClampNeg = a.toInt.toNat + ((x148_5 : Int32).toInt).toNat from (by show (v152 : Int32).toInt.toNat = _; omega))))
                  omega))⟩, ht9⟩) (fun q hq => by cases hq) dX8_isSame_50
    have : (0 : Int32).toInt = 0 := (by decide)
    exact lp149 30 0 ⟨by decide, by decide⟩ (show ∀ j : Nat, (j : Int) < (0 : Int32).toInt → (fun j => ((fa 8 1) j).toInt) ((((iv 8 5) : Int32).toInt).toNat + j) = LsW 0 (a).toInt j from (fun j hj => absurd hj (by omega))) (by first | decide | omega) ls (lv_sub hl [0, 1, 2, 3, 4, 5] rfl)
  · have fc3 := z_ne (rfl : (v1).toInt = _) (rfl : (v2).toInt = _) c3
    refine lv_iconst (v := 0) hx hb dX8_isSame_13 (by decide) ?_
    have : (0 : Int32).toInt = 0 := (by decide)
    exact W.zret (v := 0) hx hb hr rfl (fun t ht9 hW => ⟨0, rfl, ⟨⟨by decide, by decide⟩, (show (((0 : Int32).toInt = 1 ∧ WdG (fun j => ((fa 8 1) j).toInt) ((iv 8 5) : Int32).toInt (d).toInt ((b).toInt - (a).toInt) (LsW 0 (a).toInt)) ∨ ((0 : Int32).toInt = 0 ∧ ¬ WdG (fun j => ((fa 8 1) j).toInt) ((iv 8 5) : Int32).toInt (d).toInt ((b).toInt - (a).toInt) (LsW 0 (a).toInt))) from (Or.inr ⟨by omega, fun h9 => (by obtain ⟨h8, -⟩ := h9; omega)⟩))⟩, ht9⟩) (fun q hq => by cases hq) dX8_isSame_14
set_option maxHeartbeats 4000000 in
set_option maxRecDepth 100000 in
/-- X8_isSame -/
theorem c_X8_isSame_g1 (l : Launch) (dC : Nat → ClassId) (dI : Nat → Nat → Nat) (ak av : Nat → Nat) (h : Nat) (g : Nat → Nat → Nat) (ca : Nat → Nat → ClassId) (iv : Nat → Nat → Int32) (lv : Nat → Nat → Int64) (fa : Nat → Nat → Nat → Int32) (la : Nat → Nat → Nat → Int64) (hI : IX iv fa) (a : Int32) (b : Int32) (d : Int32) (h_a : 0 ≤ a.toInt ∧ a.toInt ≤ 28) (h_b : 0 ≤ b.toInt ∧ b.toInt ≤ 27) (h_d : 0 ≤ d.toInt ∧ d.toInt ≤ 200) : Met l yX8_isSame (wc yX8_isSame cX8_isSame 6 (some .boolean)) ({ frames := 4, cells := 0, slots := 0, locals := 85 } : Room) (pRZ ak av (dC, dI) classes (WX h g ca iv lv fa la) (TX ca) [.ref (g 11 4), .ref (ak 1), .int a, .int b, .int d]) (vp_Si (fun r => (0 ≤ r.toInt ∧ r.toInt ≤ 1) ∧ (((r.toInt = 1 ∧ WdG (fun j => ((fa 8 1) j).toInt) (iv 8 5).toInt d.toInt (b.toInt - a.toInt) (LsW 1 a.toInt)) ∨ (r.toInt = 0 ∧ ¬ WdG (fun j => ((fa 8 1) j).toInt) (iv 8 5).toInt d.toInt (b.toInt - a.toInt) (LsW 1 a.toInt)))))) 0 0 (fun _ => False) := by
  refine Met.ofW (cc := cX8_isSame) (maxL := 6) (ret := (some .boolean)) (by decide) rfl ?_
  intro p e s m args below meth c s₁ B hml hv
  obtain ⟨rfl, hP, hK, hZ⟩ := hv
  have hx := B.exec
  have hb := B.bytes
  have hr := B.returns
  have ht := tb_tl (atoms_spec (ws := wc yX8_isSame cX8_isSame 6 (some .boolean)) B.pre)
  have hown : s.vm.findClass RX8 = some m.cls := findClass_of_methodNamed B.named
  have hlocks := B.notSynchronized
  have hl := lv_entry [.ref (g 11 4), .ref (ak 1), .int a, .int b, .int d] (n := 6) (Nat.le_of_ble_eq_true rfl)
  rw [lg_entry_eq]
  generalize (lg_sl [.ref (g 11 4), .ref (ak 1), .int a, .int b, .int d] ++ List.replicate (6 - (lg_sl [.ref (g 11 4), .ref (ak 1), .int a, .int b, .int d]).length) Slot.unset).toArray = ls at hl ⊢
  have hl : lv_has ls 6 [(0, .ref (g 11 4)), (1, .ref (ak 1)), (2, .int a), (3, .int b), (4, .int d)] := hl
  refine lv_iload_n hx hb dX8_isSame_0 rfl (lv_at hl 3 rfl) ?_
  refine lv_iload_n hx hb dX8_isSame_1 rfl (lv_at hl 2 rfl) ?_
  refine lv_isub hx hb dX8_isSame_2 ?_
  refine lv_topi (fun v1 ev1 => ?_)
  have tv1 := z_sub ev1 (rfl : (b).toInt = _) (rfl : (a).toInt = _) (by omega) (by omega)
  refine lv_iload hx hb dX8_isSame_3 (lv_at hl 4 rfl) ?_
  refine lv_aload_n hx hb dX8_isSame_5 rfl (lv_at hl 0 rfl) ?_
  have i_8_5 : 0 ≤ (iv 8 5).toInt ∧ (iv 8 5).toInt ≤ 200 := hI.1 8 5
  refine gX_8_5 hx hb ht hown hK hP m_235 (v := (iv 8 5)) rfl dX8_isSame_6 ?_
  refine lv_isub hx hb dX8_isSame_9 ?_
  refine lv_topi (fun v2 ev2 => ?_)
  have tv2 := z_sub ev2 (rfl : (d).toInt = _) (rfl : ((iv 8 5)).toInt = _) (by omega) (by omega)
  refine lv_icmp_eq (tgt := 15) hx hb dX8_isSame_10 (by decide) (fun c3 => ?_) (fun c3 => ?_)
  · have fc3 := z_eq (rfl : (v1).toInt = _) (rfl : (v2).toInt = _) c3
    refine lv_iconst (v := 0) hx hb dX8_isSame_15 (by decide) ?_
    refine lv_istore (lv' := [(5, .int 0), (0, .ref (g 11 4)), (1, .ref (ak 1)), (2, .int a), (3, .int b), (4, .int d)]) hx hb dX8_isSame_16 hl (by decide) rfl (fun ls hl => ?_)
    have lp149 : ∀ (nn149 : Nat) (x148_5 : Int32), 0 ≤ x148_5.toInt ∧ x148_5.toInt ≤ 29 → (∀ j : Nat, (j : Int) < (x148_5 : Int32).toInt → (fun j => ((fa 8 1) j).toInt) ((((iv 8 5) : Int32).toInt).toNat + j) = LsW 1 (a).toInt j) → 29 - x148_5.toInt < (nn149 : Int) → ∀ (ls : Array Slot), lv_has ls 6 [(5, .int x148_5), (0, .ref (g 11 4)), (1, .ref (ak 1)), (2, .int a), (3, .int b), (4, .int d)] → W p l e ({ frames := 4, cells := 0, slots := 0, locals := 85 } : Room) s m ([.ref (g 11 4), .ref (ak 1), .int a, .int b, .int d] : List Value).toArray below meth c s.heap [] 0 0 (MQ below (vp_Si (fun r => (0 ≤ r.toInt ∧ r.toInt ≤ 1) ∧ (((r.toInt = 1 ∧ WdG (fun j => ((fa 8 1) j).toInt) (iv 8 5).toInt d.toInt (b.toInt - a.toInt) (LsW 1 a.toInt)) ∨ (r.toInt = 0 ∧ ¬ WdG (fun j => ((fa 8 1) j).toInt) (iv 8 5).toInt d.toInt (b.toInt - a.toInt) (LsW 1 a.toInt)))))) ([.ref (g 11 4), .ref (ak 1), .int a, .int b, .int d] : List Value).toArray s 0 0 (fun _ => False)) (F0 m 18 ls []) := by
      intro nn149
      induction nn149 with
      | zero => intro x148_5 hx148_5 hq149_0 hm149; exfalso; omega
      | succ nn149 ih149 =>
        intro x148_5 hx148_5 hq149_0 hm149 ls hl
        refine lv_iload hx hb dX8_isSame_18 (lv_at hl 0 rfl) ?_
        refine lv_iload_n hx hb dX8_isSame_20 rfl (lv_at hl 4 rfl) ?_
        refine lv_iload_n hx hb dX8_isSame_21 rfl (lv_at hl 3 rfl) ?_
        refine lv_isub hx hb dX8_isSame_22 ?_
        refine lv_topi (fun v150 ev150 => ?_)
        obtain rfl : v1 = v150 := ev1.trans ev150.symm
        refine lv_icmp_ge (tgt := 57) hx hb dX8_isSame_23 (by decide) (fun c151 => ?_) (fun c151 => ?_)
        · have fc151 := z_le (rfl : (v1).toInt = _) (rfl : (x148_5).toInt = _) c151
          refine lv_iconst (v := 1) hx hb dX8_isSame_57 (by decide) ?_
          have : (1 : Int32).toInt = 1 := (by decide)
          exact W.zret (v := 1) hx hb hr rfl (fun t ht9 hW => ⟨1, rfl, ⟨⟨by decide, by decide⟩, (show (((1 : Int32).toInt = 1 ∧ WdG (fun j => ((fa 8 1) j).toInt) ((iv 8 5) : Int32).toInt (d).toInt ((b).toInt - (a).toInt) (LsW 1 (a).toInt)) ∨ ((1 : Int32).toInt = 0 ∧ ¬ WdG (fun j => ((fa 8 1) j).toInt) ((iv 8 5) : Int32).toInt (d).toInt ((b).toInt - (a).toInt) (LsW 1 (a).toInt))) from (Or.inl ⟨by omega, by omega, fun j hj => hq149_0 j (by omega)⟩))⟩, ht9⟩) (fun q hq => by cases hq) dX8_isSame_58
        · have fc151 := z_nle (rfl : (v1).toInt = _) (rfl : (x148_5).toInt = _) c151
          refine lv_aload_n hx hb dX8_isSame_26 rfl (lv_at hl 2 rfl) ?_
          refine lv_iload_n hx hb dX8_isSame_27 rfl (lv_at hl 3 rfl) ?_
          refine lv_iload hx hb dX8_isSame_28 (lv_at hl 0 rfl) ?_
          refine lv_iadd hx hb dX8_isSame_30 ?_
          refine lv_topi (fun v152 ev152 => ?_)
          have tv152 := z_add ev152 (rfl : (a).toInt = _) (rfl : (x148_5).toInt = _) (by omega) (by omega)
          have : 0 ≤ (v152 : Int32).toInt ∧ (v152 : Int32).toInt ≤ 27 := ⟨by omega, by omega⟩
          refine vp_callSi (W.runV (As := [.int v152]) (rest := []) ⟨hx, hb, hml, hown, ht⟩ (c_J0_charAt_5068e_1 l dC dI ak av v152 ⟨by omega, by omega⟩) (kV 1 ht m_715 m_716 m_717 m_91 m_718 rfl rfl hd_J0_charAt_5068e_v ⟨Nat.le_of_ble_eq_true rfl, Nat.le_of_ble_eq_true rfl⟩) (vRZ noP (hK.sub (tys' := []) [] rfl) hZ (vk_recv hZ.1.2.2.2.2.2 (i := 1) (by decide) va_S.rf)) rfl rfl hl.1 rfl (lv_room (Nat.le_of_ble_eq_true rfl)) dX8_isSame_31 ⟨Nat.le_of_ble_eq_true rfl, Nat.le_of_ble_eq_true rfl⟩) (fun r153 hr153 => ?_)
          refine lv_aload_n hx hb dX8_isSame_34 rfl (lv_at hl 1 rfl) ?_
          refine gX_8_1 hx hb ht hown hK hP m_229 dX8_isSame_35 ?_
          refine lv_aload_n hx hb dX8_isSame_38 rfl (lv_at hl 1 rfl) ?_
          refine gX_8_5 hx hb ht hown hK hP m_235 (v := (iv 8 5)) rfl dX8_isSame_39 ?_
          refine lv_iload hx hb dX8_isSame_42 (lv_at hl 0 rfl) ?_
          refine lv_iadd hx hb dX8_isSame_44 ?_
          refine lv_topi (fun v154 ev154 => ?_)
          have tv154 := z_add ev154 (rfl : ((iv 8 5)).toInt = _) (rfl : (x148_5).toInt = _) (by omega) (by omega)
          have : 0 ≤ (v154 : Int32).toInt ∧ (v154 : Int32).toInt ≤ 199 := ⟨by omega, by omega⟩
          refine lX_8_1 hx hb hK hP (f := (fa 8 1)) rfl (vp_in_iff.mpr ⟨by omega, by omega⟩) dX8_isSame_45 ?_
          refine lv_topi (fun v155 ev155 => ?_)
          refine lv_icmp_eq (tgt := 51) hx hb dX8_isSame_46 (by decide) (fun c156 => ?_) (fun c156 => ?_)
          · have fc156 := z_eq (rfl : (r153).toInt = _) (rfl : (v155).toInt = _) c156
            obtain ⟨v157, ev157⟩ : ∃ y : Int32, y = x148_5 + 1 := ⟨_, rfl⟩
            have tv157 := z_add ev157 rfl (by decide : (1 : Int32).toInt = 1) (by omega) (by omega)
            refine lv_iinc (v := v157) (lv' := [(5, .int v157), (0, .ref (g 11 4)), (1, .ref (ak 1)), (2, .int a), (3, .int b), (4, .int d)]) hx hb dX8_isSame_51 hl (k := 0) rfl (by rw [ev157]; rfl) (by decide) rfl (fun ls hl => ?_)
            refine lv_goto (tgt := 18) hx hb dX8_isSame_54 (by decide) ?_
            exact ih149 v157 ⟨by omega, by omega⟩ (show ∀ j : Nat, (j : Int) < (v157 : Int32).toInt → (fun j => ((fa 8 1) j).toInt) ((((iv 8 5) : Int32).toInt).toNat + j) = LsW 1 (a).toInt j from (fun j hj => by
                  by_cases hj2 : (j : Int) < (x148_5 : Int32).toInt
                  · exact hq149_0 j hj2
                  · have hj3 : j = ((x148_5 : Int32).toInt).toNat := by omega
                    rw [hj3]
                    have q0 : (v155 : Int32).toInt = (fa 8 1 ((iv 8 5).toInt.toNat + ((x148_5 : Int32).toInt).toNat)).toInt := congrArg Int32.toInt (ev155.trans (congrArg (fa 8 1) (show (v154 : Int32).toNatClampNeg = (iv 8 5).toInt.toNat + ((x148_5 : Int32).toInt).toNat from (by show (v154 : Int32).toInt.toNat = _; omega))))
                    have q1 : (r153 : Int32).toInt = ((S_byt.getD 1 []).getD (a.toInt.toNat + ((x148_5 : Int32).toInt).toNat) 0).toInt := congrArg Int32.toInt (hr153.trans (congrArg (fun z => (S_byt.getD 1 []).getD z 0) (show (v152 : Int32).toNatClampNeg = a.toInt.toNat + ((x148_5 : Int32).toInt).toNat from (by show (v152 : Int32).toInt.toNat = _; omega))))
                    show (fa 8 1 ((iv 8 5).toInt.toNat + ((x148_5 : Int32).toInt).toNat)).toInt = ((S_byt.getD 1 []).getD (a.toInt.toNat + ((x148_5 : Int32).toInt).toNat) 0).toInt
                    omega)) (by omega) ls (lv_sub hl [0, 1, 2, 3, 4, 5] rfl)
          · have fc156 := z_ne (rfl : (r153).toInt = _) (rfl : (v155).toInt = _) c156
            refine lv_iconst (v := 0) hx hb dX8_isSame_49 (by decide) ?_
            have : (0 : Int32).toInt = 0 := (by decide)
            exact W.zret (v := 0) hx hb hr rfl (fun t ht9 hW => ⟨0, rfl, ⟨⟨by decide, by decide⟩, (show (((0 : Int32).toInt = 1 ∧ WdG (fun j => ((fa 8 1) j).toInt) ((iv 8 5) : Int32).toInt (d).toInt ((b).toInt - (a).toInt) (LsW 1 (a).toInt)) ∨ ((0 : Int32).toInt = 0 ∧ ¬ WdG (fun j => ((fa 8 1) j).toInt) ((iv 8 5) : Int32).toInt (d).toInt ((b).toInt - (a).toInt) (LsW 1 (a).toInt))) from (by
                  refine Or.inr ⟨by omega, fun h9 => ?_⟩
                  obtain ⟨-, h8⟩ := h9
                  have h7 : (fa 8 1 ((iv 8 5).toInt.toNat + ((x148_5 : Int32).toInt).toNat)).toInt = ((S_byt.getD 1 []).getD (a.toInt.toNat + ((x148_5 : Int32).toInt).toNat) 0).toInt := h8 ((x148_5 : Int32).toInt).toNat (by omega)
                  have q0 : (v155 : Int32).toInt = (fa 8 1 ((iv 8 5).toInt.toNat + ((x148_5 : Int32).toInt).toNat)).toInt := congrArg Int32.toInt (ev155.trans (congrArg (fa 8 1) (show (v154 : Int32).toNatClampNeg = (iv 8 5).toInt.toNat + ((x148_5 : Int32).toInt).toNat from (by show (v154 : Int32).toInt.toNat = _; omega))))
                  have q1 : (r153 : Int32).toInt = ((S_byt.getD 1 []).getD (a.toInt.toNat + ((x148_5 : Int32).toInt).toNat) 0).toInt := congrArg Int32.toInt (hr153.trans (congrArg (fun z => (S_byt.getD 1 []).getD z 0) (show (v152 : Int32).toNatClampNeg = a.toInt.toNat + ((x148_5 : Int32).toInt).toNat from (by show (v152 : Int32).toInt.toNat = _; omega))))
                  omega))⟩, ht9⟩) (fun q hq => by cases hq) dX8_isSame_50
    have : (0 : Int32).toInt = 0 := (by decide)
    exact lp149 30 0 ⟨by decide, by decide⟩ (show ∀ j : Nat, (j : Int) < (0 : Int32).toInt → (fun j => ((fa 8 1) j).toInt) ((((iv 8 5) : Int32).toInt).toNat + j) = LsW 1 (a).toInt j from (fun j hj => absurd hj (by omega))) (by first | decide | omega) ls (lv_sub hl [0, 1, 2, 3, 4, 5] rfl)
  · have fc3 := z_ne (rfl : (v1).toInt = _) (rfl : (v2).toInt = _) c3
    refine lv_iconst (v := 0) hx hb dX8_isSame_13 (by decide) ?_
    have : (0 : Int32).toInt = 0 := (by decide)
    exact W.zret (v := 0) hx hb hr rfl (fun t ht9 hW => ⟨0, rfl, ⟨⟨by decide, by decide⟩, (show (((0 : Int32).toInt = 1 ∧ WdG (fun j => ((fa 8 1) j).toInt) ((iv 8 5) : Int32).toInt (d).toInt ((b).toInt - (a).toInt) (LsW 1 (a).toInt)) ∨ ((0 : Int32).toInt = 0 ∧ ¬ WdG (fun j => ((fa 8 1) j).toInt) ((iv 8 5) : Int32).toInt (d).toInt ((b).toInt - (a).toInt) (LsW 1 (a).toInt))) from (Or.inr ⟨by omega, fun h9 => (by obtain ⟨h8, -⟩ := h9; omega)⟩))⟩, ht9⟩) (fun q hq => by cases hq) dX8_isSame_14
set_option maxHeartbeats 4000000 in
set_option maxRecDepth 100000 in
/-- X8_isSame -/
theorem c_X8_isSame_g2 (l : Launch) (dC : Nat → ClassId) (dI : Nat → Nat → Nat) (ak av : Nat → Nat) (h : Nat) (g : Nat → Nat → Nat) (ca : Nat → Nat → ClassId) (iv : Nat → Nat → Int32) (lv : Nat → Nat → Int64) (fa : Nat → Nat → Nat → Int32) (la : Nat → Nat → Nat → Int64) (hI : IX iv fa) (a : Int32) (b : Int32) (d : Int32) (h_a : 0 ≤ a.toInt ∧ a.toInt ≤ 18) (h_b : 0 ≤ b.toInt ∧ b.toInt ≤ 17) (h_d : 0 ≤ d.toInt ∧ d.toInt ≤ 200) : Met l yX8_isSame (wc yX8_isSame cX8_isSame 6 (some .boolean)) ({ frames := 4, cells := 0, slots := 0, locals := 85 } : Room) (pRZ ak av (dC, dI) classes (WX h g ca iv lv fa la) (TX ca) [.ref (g 11 4), .ref (ak 2), .int a, .int b, .int d]) (vp_Si (fun r => (0 ≤ r.toInt ∧ r.toInt ≤ 1) ∧ (((r.toInt = 1 ∧ WdG (fun j => ((fa 8 1) j).toInt) (iv 8 5).toInt d.toInt (b.toInt - a.toInt) (LsW 2 a.toInt)) ∨ (r.toInt = 0 ∧ ¬ WdG (fun j => ((fa 8 1) j).toInt) (iv 8 5).toInt d.toInt (b.toInt - a.toInt) (LsW 2 a.toInt)))))) 0 0 (fun _ => False) := by
  refine Met.ofW (cc := cX8_isSame) (maxL := 6) (ret := (some .boolean)) (by decide) rfl ?_
  intro p e s m args below meth c s₁ B hml hv
  obtain ⟨rfl, hP, hK, hZ⟩ := hv
  have hx := B.exec
  have hb := B.bytes
  have hr := B.returns
  have ht := tb_tl (atoms_spec (ws := wc yX8_isSame cX8_isSame 6 (some .boolean)) B.pre)
  have hown : s.vm.findClass RX8 = some m.cls := findClass_of_methodNamed B.named
  have hlocks := B.notSynchronized
  have hl := lv_entry [.ref (g 11 4), .ref (ak 2), .int a, .int b, .int d] (n := 6) (Nat.le_of_ble_eq_true rfl)
  rw [lg_entry_eq]
  generalize (lg_sl [.ref (g 11 4), .ref (ak 2), .int a, .int b, .int d] ++ List.replicate (6 - (lg_sl [.ref (g 11 4), .ref (ak 2), .int a, .int b, .int d]).length) Slot.unset).toArray = ls at hl ⊢
  have hl : lv_has ls 6 [(0, .ref (g 11 4)), (1, .ref (ak 2)), (2, .int a), (3, .int b), (4, .int d)] := hl
  refine lv_iload_n hx hb dX8_isSame_0 rfl (lv_at hl 3 rfl) ?_
  refine lv_iload_n hx hb dX8_isSame_1 rfl (lv_at hl 2 rfl) ?_
  refine lv_isub hx hb dX8_isSame_2 ?_
  refine lv_topi (fun v1 ev1 => ?_)
  have tv1 := z_sub ev1 (rfl : (b).toInt = _) (rfl : (a).toInt = _) (by omega) (by omega)
  refine lv_iload hx hb dX8_isSame_3 (lv_at hl 4 rfl) ?_
  refine lv_aload_n hx hb dX8_isSame_5 rfl (lv_at hl 0 rfl) ?_
  have i_8_5 : 0 ≤ (iv 8 5).toInt ∧ (iv 8 5).toInt ≤ 200 := hI.1 8 5
  refine gX_8_5 hx hb ht hown hK hP m_235 (v := (iv 8 5)) rfl dX8_isSame_6 ?_
  refine lv_isub hx hb dX8_isSame_9 ?_
  refine lv_topi (fun v2 ev2 => ?_)
  have tv2 := z_sub ev2 (rfl : (d).toInt = _) (rfl : ((iv 8 5)).toInt = _) (by omega) (by omega)
  refine lv_icmp_eq (tgt := 15) hx hb dX8_isSame_10 (by decide) (fun c3 => ?_) (fun c3 => ?_)
  · have fc3 := z_eq (rfl : (v1).toInt = _) (rfl : (v2).toInt = _) c3
    refine lv_iconst (v := 0) hx hb dX8_isSame_15 (by decide) ?_
    refine lv_istore (lv' := [(5, .int 0), (0, .ref (g 11 4)), (1, .ref (ak 2)), (2, .int a), (3, .int b), (4, .int d)]) hx hb dX8_isSame_16 hl (by decide) rfl (fun ls hl => ?_)
    have lp140 : ∀ (nn140 : Nat) (x139_5 : Int32), 0 ≤ x139_5.toInt ∧ x139_5.toInt ≤ 19 → (∀ j : Nat, (j : Int) < (x139_5 : Int32).toInt → (fun j => ((fa 8 1) j).toInt) ((((iv 8 5) : Int32).toInt).toNat + j) = LsW 2 (a).toInt j) → 19 - x139_5.toInt < (nn140 : Int) → ∀ (ls : Array Slot), lv_has ls 6 [(5, .int x139_5), (0, .ref (g 11 4)), (1, .ref (ak 2)), (2, .int a), (3, .int b), (4, .int d)] → W p l e ({ frames := 4, cells := 0, slots := 0, locals := 85 } : Room) s m ([.ref (g 11 4), .ref (ak 2), .int a, .int b, .int d] : List Value).toArray below meth c s.heap [] 0 0 (MQ below (vp_Si (fun r => (0 ≤ r.toInt ∧ r.toInt ≤ 1) ∧ (((r.toInt = 1 ∧ WdG (fun j => ((fa 8 1) j).toInt) (iv 8 5).toInt d.toInt (b.toInt - a.toInt) (LsW 2 a.toInt)) ∨ (r.toInt = 0 ∧ ¬ WdG (fun j => ((fa 8 1) j).toInt) (iv 8 5).toInt d.toInt (b.toInt - a.toInt) (LsW 2 a.toInt)))))) ([.ref (g 11 4), .ref (ak 2), .int a, .int b, .int d] : List Value).toArray s 0 0 (fun _ => False)) (F0 m 18 ls []) := by
      intro nn140
      induction nn140 with
      | zero => intro x139_5 hx139_5 hq140_0 hm140; exfalso; omega
      | succ nn140 ih140 =>
        intro x139_5 hx139_5 hq140_0 hm140 ls hl
        refine lv_iload hx hb dX8_isSame_18 (lv_at hl 0 rfl) ?_
        refine lv_iload_n hx hb dX8_isSame_20 rfl (lv_at hl 4 rfl) ?_
        refine lv_iload_n hx hb dX8_isSame_21 rfl (lv_at hl 3 rfl) ?_
        refine lv_isub hx hb dX8_isSame_22 ?_
        refine lv_topi (fun v141 ev141 => ?_)
        obtain rfl : v1 = v141 := ev1.trans ev141.symm
        refine lv_icmp_ge (tgt := 57) hx hb dX8_isSame_23 (by decide) (fun c142 => ?_) (fun c142 => ?_)
        · have fc142 := z_le (rfl : (v1).toInt = _) (rfl : (x139_5).toInt = _) c142
          refine lv_iconst (v := 1) hx hb dX8_isSame_57 (by decide) ?_
          have : (1 : Int32).toInt = 1 := (by decide)
          exact W.zret (v := 1) hx hb hr rfl (fun t ht9 hW => ⟨1, rfl, ⟨⟨by decide, by decide⟩, (show (((1 : Int32).toInt = 1 ∧ WdG (fun j => ((fa 8 1) j).toInt) ((iv 8 5) : Int32).toInt (d).toInt ((b).toInt - (a).toInt) (LsW 2 (a).toInt)) ∨ ((1 : Int32).toInt = 0 ∧ ¬ WdG (fun j => ((fa 8 1) j).toInt) ((iv 8 5) : Int32).toInt (d).toInt ((b).toInt - (a).toInt) (LsW 2 (a).toInt))) from (Or.inl ⟨by omega, by omega, fun j hj => hq140_0 j (by omega)⟩))⟩, ht9⟩) (fun q hq => by cases hq) dX8_isSame_58
        · have fc142 := z_nle (rfl : (v1).toInt = _) (rfl : (x139_5).toInt = _) c142
          refine lv_aload_n hx hb dX8_isSame_26 rfl (lv_at hl 2 rfl) ?_
          refine lv_iload_n hx hb dX8_isSame_27 rfl (lv_at hl 3 rfl) ?_
          refine lv_iload hx hb dX8_isSame_28 (lv_at hl 0 rfl) ?_
          refine lv_iadd hx hb dX8_isSame_30 ?_
          refine lv_topi (fun v143 ev143 => ?_)
          have tv143 := z_add ev143 (rfl : (a).toInt = _) (rfl : (x139_5).toInt = _) (by omega) (by omega)
          have : 0 ≤ (v143 : Int32).toInt ∧ (v143 : Int32).toInt ≤ 17 := ⟨by omega, by omega⟩
          refine vp_callSi (W.runV (As := [.int v143]) (rest := []) ⟨hx, hb, hml, hown, ht⟩ (c_J0_charAt_5068e_2 l dC dI ak av v143 ⟨by omega, by omega⟩) (kV 1 ht m_715 m_716 m_717 m_91 m_718 rfl rfl hd_J0_charAt_5068e_v ⟨Nat.le_of_ble_eq_true rfl, Nat.le_of_ble_eq_true rfl⟩) (vRZ noP (hK.sub (tys' := []) [] rfl) hZ (vk_recv hZ.1.2.2.2.2.2 (i := 2) (by decide) va_S.rf)) rfl rfl hl.1 rfl (lv_room (Nat.le_of_ble_eq_true rfl)) dX8_isSame_31 ⟨Nat.le_of_ble_eq_true rfl, Nat.le_of_ble_eq_true rfl⟩) (fun r144 hr144 => ?_)
          refine lv_aload_n hx hb dX8_isSame_34 rfl (lv_at hl 1 rfl) ?_
          refine gX_8_1 hx hb ht hown hK hP m_229 dX8_isSame_35 ?_
          refine lv_aload_n hx hb dX8_isSame_38 rfl (lv_at hl 1 rfl) ?_
          refine gX_8_5 hx hb ht hown hK hP m_235 (v := (iv 8 5)) rfl dX8_isSame_39 ?_
          refine lv_iload hx hb dX8_isSame_42 (lv_at hl 0 rfl) ?_
          refine lv_iadd hx hb dX8_isSame_44 ?_
          refine lv_topi (fun v145 ev145 => ?_)
          have tv145 := z_add ev145 (rfl : ((iv 8 5)).toInt = _) (rfl : (x139_5).toInt = _) (by omega) (by omega)
          have : 0 ≤ (v145 : Int32).toInt ∧ (v145 : Int32).toInt ≤ 199 := ⟨by omega, by omega⟩
          refine lX_8_1 hx hb hK hP (f := (fa 8 1)) rfl (vp_in_iff.mpr ⟨by omega, by omega⟩) dX8_isSame_45 ?_
          refine lv_topi (fun v146 ev146 => ?_)
          refine lv_icmp_eq (tgt := 51) hx hb dX8_isSame_46 (by decide) (fun c147 => ?_) (fun c147 => ?_)
          · have fc147 := z_eq (rfl : (r144).toInt = _) (rfl : (v146).toInt = _) c147
            obtain ⟨v148, ev148⟩ : ∃ y : Int32, y = x139_5 + 1 := ⟨_, rfl⟩
            have tv148 := z_add ev148 rfl (by decide : (1 : Int32).toInt = 1) (by omega) (by omega)
            refine lv_iinc (v := v148) (lv' := [(5, .int v148), (0, .ref (g 11 4)), (1, .ref (ak 2)), (2, .int a), (3, .int b), (4, .int d)]) hx hb dX8_isSame_51 hl (k := 0) rfl (by rw [ev148]; rfl) (by decide) rfl (fun ls hl => ?_)
            refine lv_goto (tgt := 18) hx hb dX8_isSame_54 (by decide) ?_
            exact ih140 v148 ⟨by omega, by omega⟩ (show ∀ j : Nat, (j : Int) < (v148 : Int32).toInt → (fun j => ((fa 8 1) j).toInt) ((((iv 8 5) : Int32).toInt).toNat + j) = LsW 2 (a).toInt j from (fun j hj => by
                  by_cases hj2 : (j : Int) < (x139_5 : Int32).toInt
                  · exact hq140_0 j hj2
                  · have hj3 : j = ((x139_5 : Int32).toInt).toNat := by omega
                    rw [hj3]
                    have q0 : (v146 : Int32).toInt = (fa 8 1 ((iv 8 5).toInt.toNat + ((x139_5 : Int32).toInt).toNat)).toInt := congrArg Int32.toInt (ev146.trans (congrArg (fa 8 1) (show (v145 : Int32).toNatClampNeg = (iv 8 5).toInt.toNat + ((x139_5 : Int32).toInt).toNat from (by show (v145 : Int32).toInt.toNat = _; omega))))
                    have q1 : (r144 : Int32).toInt = ((S_byt.getD 2 []).getD (a.toInt.toNat + ((x139_5 : Int32).toInt).toNat) 0).toInt := congrArg Int32.toInt (hr144.trans (congrArg (fun z => (S_byt.getD 2 []).getD z 0) (show (v143 : Int32).toNatClampNeg = a.toInt.toNat + ((x139_5 : Int32).toInt).toNat from (by show (v143 : Int32).toInt.toNat = _; omega))))
                    show (fa 8 1 ((iv 8 5).toInt.toNat + ((x139_5 : Int32).toInt).toNat)).toInt = ((S_byt.getD 2 []).getD (a.toInt.toNat + ((x139_5 : Int32).toInt).toNat) 0).toInt
                    omega)) (by omega) ls (lv_sub hl [0, 1, 2, 3, 4, 5] rfl)
          · have fc147 := z_ne (rfl : (r144).toInt = _) (rfl : (v146).toInt = _) c147
            refine lv_iconst (v := 0) hx hb dX8_isSame_49 (by decide) ?_
            have : (0 : Int32).toInt = 0 := (by decide)
            exact W.zret (v := 0) hx hb hr rfl (fun t ht9 hW => ⟨0, rfl, ⟨⟨by decide, by decide⟩, (show (((0 : Int32).toInt = 1 ∧ WdG (fun j => ((fa 8 1) j).toInt) ((iv 8 5) : Int32).toInt (d).toInt ((b).toInt - (a).toInt) (LsW 2 (a).toInt)) ∨ ((0 : Int32).toInt = 0 ∧ ¬ WdG (fun j => ((fa 8 1) j).toInt) ((iv 8 5) : Int32).toInt (d).toInt ((b).toInt - (a).toInt) (LsW 2 (a).toInt))) from (by
                  refine Or.inr ⟨by omega, fun h9 => ?_⟩
                  obtain ⟨-, h8⟩ := h9
                  have h7 : (fa 8 1 ((iv 8 5).toInt.toNat + ((x139_5 : Int32).toInt).toNat)).toInt = ((S_byt.getD 2 []).getD (a.toInt.toNat + ((x139_5 : Int32).toInt).toNat) 0).toInt := h8 ((x139_5 : Int32).toInt).toNat (by omega)
                  have q0 : (v146 : Int32).toInt = (fa 8 1 ((iv 8 5).toInt.toNat + ((x139_5 : Int32).toInt).toNat)).toInt := congrArg Int32.toInt (ev146.trans (congrArg (fa 8 1) (show (v145 : Int32).toNatClampNeg = (iv 8 5).toInt.toNat + ((x139_5 : Int32).toInt).toNat from (by show (v145 : Int32).toInt.toNat = _; omega))))
                  have q1 : (r144 : Int32).toInt = ((S_byt.getD 2 []).getD (a.toInt.toNat + ((x139_5 : Int32).toInt).toNat) 0).toInt := congrArg Int32.toInt (hr144.trans (congrArg (fun z => (S_byt.getD 2 []).getD z 0) (show (v143 : Int32).toNatClampNeg = a.toInt.toNat + ((x139_5 : Int32).toInt).toNat from (by show (v143 : Int32).toInt.toNat = _; omega))))
                  omega))⟩, ht9⟩) (fun q hq => by cases hq) dX8_isSame_50
    have : (0 : Int32).toInt = 0 := (by decide)
    exact lp140 20 0 ⟨by decide, by decide⟩ (show ∀ j : Nat, (j : Int) < (0 : Int32).toInt → (fun j => ((fa 8 1) j).toInt) ((((iv 8 5) : Int32).toInt).toNat + j) = LsW 2 (a).toInt j from (fun j hj => absurd hj (by omega))) (by first | decide | omega) ls (lv_sub hl [0, 1, 2, 3, 4, 5] rfl)
  · have fc3 := z_ne (rfl : (v1).toInt = _) (rfl : (v2).toInt = _) c3
    refine lv_iconst (v := 0) hx hb dX8_isSame_13 (by decide) ?_
    have : (0 : Int32).toInt = 0 := (by decide)
    exact W.zret (v := 0) hx hb hr rfl (fun t ht9 hW => ⟨0, rfl, ⟨⟨by decide, by decide⟩, (show (((0 : Int32).toInt = 1 ∧ WdG (fun j => ((fa 8 1) j).toInt) ((iv 8 5) : Int32).toInt (d).toInt ((b).toInt - (a).toInt) (LsW 2 (a).toInt)) ∨ ((0 : Int32).toInt = 0 ∧ ¬ WdG (fun j => ((fa 8 1) j).toInt) ((iv 8 5) : Int32).toInt (d).toInt ((b).toInt - (a).toInt) (LsW 2 (a).toInt))) from (Or.inr ⟨by omega, fun h9 => (by obtain ⟨h8, -⟩ := h9; omega)⟩))⟩, ht9⟩) (fun q hq => by cases hq) dX8_isSame_14
set_option maxHeartbeats 4000000 in
set_option maxRecDepth 100000 in
/-- X8_isSame -/
theorem c_X8_isSame_g3 (l : Launch) (dC : Nat → ClassId) (dI : Nat → Nat → Nat) (ak av : Nat → Nat) (h : Nat) (g : Nat → Nat → Nat) (ca : Nat → Nat → ClassId) (iv : Nat → Nat → Int32) (lv : Nat → Nat → Int64) (fa : Nat → Nat → Nat → Int32) (la : Nat → Nat → Nat → Int64) (hI : IX iv fa) (a : Int32) (b : Int32) (d : Int32) (h_a : 0 ≤ a.toInt ∧ a.toInt ≤ 3) (h_b : 0 ≤ b.toInt ∧ b.toInt ≤ 2) (h_d : 0 ≤ d.toInt ∧ d.toInt ≤ 200) : Met l yX8_isSame (wc yX8_isSame cX8_isSame 6 (some .boolean)) ({ frames := 4, cells := 0, slots := 0, locals := 85 } : Room) (pRZ ak av (dC, dI) classes (WX h g ca iv lv fa la) (TX ca) [.ref (g 11 4), .ref (ak 3), .int a, .int b, .int d]) (vp_Si (fun r => (0 ≤ r.toInt ∧ r.toInt ≤ 1) ∧ (((r.toInt = 1 ∧ WdG (fun j => ((fa 8 1) j).toInt) (iv 8 5).toInt d.toInt (b.toInt - a.toInt) (LsW 3 a.toInt)) ∨ (r.toInt = 0 ∧ ¬ WdG (fun j => ((fa 8 1) j).toInt) (iv 8 5).toInt d.toInt (b.toInt - a.toInt) (LsW 3 a.toInt)))))) 0 0 (fun _ => False) := by
  refine Met.ofW (cc := cX8_isSame) (maxL := 6) (ret := (some .boolean)) (by decide) rfl ?_
  intro p e s m args below meth c s₁ B hml hv
  obtain ⟨rfl, hP, hK, hZ⟩ := hv
  have hx := B.exec
  have hb := B.bytes
  have hr := B.returns
  have ht := tb_tl (atoms_spec (ws := wc yX8_isSame cX8_isSame 6 (some .boolean)) B.pre)
  have hown : s.vm.findClass RX8 = some m.cls := findClass_of_methodNamed B.named
  have hlocks := B.notSynchronized
  have hl := lv_entry [.ref (g 11 4), .ref (ak 3), .int a, .int b, .int d] (n := 6) (Nat.le_of_ble_eq_true rfl)
  rw [lg_entry_eq]
  generalize (lg_sl [.ref (g 11 4), .ref (ak 3), .int a, .int b, .int d] ++ List.replicate (6 - (lg_sl [.ref (g 11 4), .ref (ak 3), .int a, .int b, .int d]).length) Slot.unset).toArray = ls at hl ⊢
  have hl : lv_has ls 6 [(0, .ref (g 11 4)), (1, .ref (ak 3)), (2, .int a), (3, .int b), (4, .int d)] := hl
  refine lv_iload_n hx hb dX8_isSame_0 rfl (lv_at hl 3 rfl) ?_
  refine lv_iload_n hx hb dX8_isSame_1 rfl (lv_at hl 2 rfl) ?_
  refine lv_isub hx hb dX8_isSame_2 ?_
  refine lv_topi (fun v1 ev1 => ?_)
  have tv1 := z_sub ev1 (rfl : (b).toInt = _) (rfl : (a).toInt = _) (by omega) (by omega)
  refine lv_iload hx hb dX8_isSame_3 (lv_at hl 4 rfl) ?_
  refine lv_aload_n hx hb dX8_isSame_5 rfl (lv_at hl 0 rfl) ?_
  have i_8_5 : 0 ≤ (iv 8 5).toInt ∧ (iv 8 5).toInt ≤ 200 := hI.1 8 5
  refine gX_8_5 hx hb ht hown hK hP m_235 (v := (iv 8 5)) rfl dX8_isSame_6 ?_
  refine lv_isub hx hb dX8_isSame_9 ?_
  refine lv_topi (fun v2 ev2 => ?_)
  have tv2 := z_sub ev2 (rfl : (d).toInt = _) (rfl : ((iv 8 5)).toInt = _) (by omega) (by omega)
  refine lv_icmp_eq (tgt := 15) hx hb dX8_isSame_10 (by decide) (fun c3 => ?_) (fun c3 => ?_)
  · have fc3 := z_eq (rfl : (v1).toInt = _) (rfl : (v2).toInt = _) c3
    refine lv_iconst (v := 0) hx hb dX8_isSame_15 (by decide) ?_
    refine lv_istore (lv' := [(5, .int 0), (0, .ref (g 11 4)), (1, .ref (ak 3)), (2, .int a), (3, .int b), (4, .int d)]) hx hb dX8_isSame_16 hl (by decide) rfl (fun ls hl => ?_)
    have lp32 : ∀ (nn32 : Nat) (x31_5 : Int32), 0 ≤ x31_5.toInt ∧ x31_5.toInt ≤ 2 → (∀ j : Nat, (j : Int) < (x31_5 : Int32).toInt → (fun j => ((fa 8 1) j).toInt) ((((iv 8 5) : Int32).toInt).toNat + j) = LsW 3 (a).toInt j) → 2 - x31_5.toInt < (nn32 : Int) → ∀ (ls : Array Slot), lv_has ls 6 [(5, .int x31_5), (0, .ref (g 11 4)), (1, .ref (ak 3)), (2, .int a), (3, .int b), (4, .int d)] → W p l e ({ frames := 4, cells := 0, slots := 0, locals := 85 } : Room) s m ([.ref (g 11 4), .ref (ak 3), .int a, .int b, .int d] : List Value).toArray below meth c s.heap [] 0 0 (MQ below (vp_Si (fun r => (0 ≤ r.toInt ∧ r.toInt ≤ 1) ∧ (((r.toInt = 1 ∧ WdG (fun j => ((fa 8 1) j).toInt) (iv 8 5).toInt d.toInt (b.toInt - a.toInt) (LsW 3 a.toInt)) ∨ (r.toInt = 0 ∧ ¬ WdG (fun j => ((fa 8 1) j).toInt) (iv 8 5).toInt d.toInt (b.toInt - a.toInt) (LsW 3 a.toInt)))))) ([.ref (g 11 4), .ref (ak 3), .int a, .int b, .int d] : List Value).toArray s 0 0 (fun _ => False)) (F0 m 18 ls []) := by
      intro nn32
      induction nn32 with
      | zero => intro x31_5 hx31_5 hq32_0 hm32; exfalso; omega
      | succ nn32 ih32 =>
        intro x31_5 hx31_5 hq32_0 hm32 ls hl
        refine lv_iload hx hb dX8_isSame_18 (lv_at hl 0 rfl) ?_
        refine lv_iload_n hx hb dX8_isSame_20 rfl (lv_at hl 4 rfl) ?_
        refine lv_iload_n hx hb dX8_isSame_21 rfl (lv_at hl 3 rfl) ?_
        refine lv_isub hx hb dX8_isSame_22 ?_
        refine lv_topi (fun v33 ev33 => ?_)
        obtain rfl : v1 = v33 := ev1.trans ev33.symm
        refine lv_icmp_ge (tgt := 57) hx hb dX8_isSame_23 (by decide) (fun c34 => ?_) (fun c34 => ?_)
        · have fc34 := z_le (rfl : (v1).toInt = _) (rfl : (x31_5).toInt = _) c34
          refine lv_iconst (v := 1) hx hb dX8_isSame_57 (by decide) ?_
          have : (1 : Int32).toInt = 1 := (by decide)
          exact W.zret (v := 1) hx hb hr rfl (fun t ht9 hW => ⟨1, rfl, ⟨⟨by decide, by decide⟩, (show (((1 : Int32).toInt = 1 ∧ WdG (fun j => ((fa 8 1) j).toInt) ((iv 8 5) : Int32).toInt (d).toInt ((b).toInt - (a).toInt) (LsW 3 (a).toInt)) ∨ ((1 : Int32).toInt = 0 ∧ ¬ WdG (fun j => ((fa 8 1) j).toInt) ((iv 8 5) : Int32).toInt (d).toInt ((b).toInt - (a).toInt) (LsW 3 (a).toInt))) from (Or.inl ⟨by omega, by omega, fun j hj => hq32_0 j (by omega)⟩))⟩, ht9⟩) (fun q hq => by cases hq) dX8_isSame_58
        · have fc34 := z_nle (rfl : (v1).toInt = _) (rfl : (x31_5).toInt = _) c34
          refine lv_aload_n hx hb dX8_isSame_26 rfl (lv_at hl 2 rfl) ?_
          refine lv_iload_n hx hb dX8_isSame_27 rfl (lv_at hl 3 rfl) ?_
          refine lv_iload hx hb dX8_isSame_28 (lv_at hl 0 rfl) ?_
          refine lv_iadd hx hb dX8_isSame_30 ?_
          refine lv_topi (fun v35 ev35 => ?_)
          have tv35 := z_add ev35 (rfl : (a).toInt = _) (rfl : (x31_5).toInt = _) (by omega) (by omega)
          have : 0 ≤ (v35 : Int32).toInt ∧ (v35 : Int32).toInt ≤ 2 := ⟨by omega, by omega⟩
          refine vp_callSi (W.runV (As := [.int v35]) (rest := []) ⟨hx, hb, hml, hown, ht⟩ (c_J0_charAt_5068e_3 l dC dI ak av v35 ⟨by omega, by omega⟩) (kV 1 ht m_715 m_716 m_717 m_91 m_718 rfl rfl hd_J0_charAt_5068e_v ⟨Nat.le_of_ble_eq_true rfl, Nat.le_of_ble_eq_true rfl⟩) (vRZ noP (hK.sub (tys' := []) [] rfl) hZ (vk_recv hZ.1.2.2.2.2.2 (i := 3) (by decide) va_S.rf)) rfl rfl hl.1 rfl (lv_room (Nat.le_of_ble_eq_true rfl)) dX8_isSame_31 ⟨Nat.le_of_ble_eq_true rfl, Nat.le_of_ble_eq_true rfl⟩) (fun r36 hr36 => ?_)
          refine lv_aload_n hx hb dX8_isSame_34 rfl (lv_at hl 1 rfl) ?_
          refine gX_8_1 hx hb ht hown hK hP m_229 dX8_isSame_35 ?_
          refine lv_aload_n hx hb dX8_isSame_38 rfl (lv_at hl 1 rfl) ?_
          refine gX_8_5 hx hb ht hown hK hP m_235 (v := (iv 8 5)) rfl dX8_isSame_39 ?_
          refine lv_iload hx hb dX8_isSame_42 (lv_at hl 0 rfl) ?_
          refine lv_iadd hx hb dX8_isSame_44 ?_
          refine lv_topi (fun v37 ev37 => ?_)
          have tv37 := z_add ev37 (rfl : ((iv 8 5)).toInt = _) (rfl : (x31_5).toInt = _) (by omega) (by omega)
          have : 0 ≤ (v37 : Int32).toInt ∧ (v37 : Int32).toInt ≤ 199 := ⟨by omega, by omega⟩
          refine lX_8_1 hx hb hK hP (f := (fa 8 1)) rfl (vp_in_iff.mpr ⟨by omega, by omega⟩) dX8_isSame_45 ?_
          refine lv_topi (fun v38 ev38 => ?_)
          refine lv_icmp_eq (tgt := 51) hx hb dX8_isSame_46 (by decide) (fun c39 => ?_) (fun c39 => ?_)
          · have fc39 := z_eq (rfl : (r36).toInt = _) (rfl : (v38).toInt = _) c39
            obtain ⟨v40, ev40⟩ : ∃ y : Int32, y = x31_5 + 1 := ⟨_, rfl⟩
            have tv40 := z_add ev40 rfl (by decide : (1 : Int32).toInt = 1) (by omega) (by omega)
            refine lv_iinc (v := v40) (lv' := [(5, .int v40), (0, .ref (g 11 4)), (1, .ref (ak 3)), (2, .int a), (3, .int b), (4, .int d)]) hx hb dX8_isSame_51 hl (k := 0) rfl (by rw [ev40]; rfl) (by decide) rfl (fun ls hl => ?_)
            refine lv_goto (tgt := 18) hx hb dX8_isSame_54 (by decide) ?_
            exact ih32 v40 ⟨by omega, by omega⟩ (show ∀ j : Nat, (j : Int) < (v40 : Int32).toInt → (fun j => ((fa 8 1) j).toInt) ((((iv 8 5) : Int32).toInt).toNat + j) = LsW 3 (a).toInt j from (fun j hj => by
                  by_cases hj2 : (j : Int) < (x31_5 : Int32).toInt
                  · exact hq32_0 j hj2
                  · have hj3 : j = ((x31_5 : Int32).toInt).toNat := by omega
                    rw [hj3]
                    have q0 : (v38 : Int32).toInt = (fa 8 1 ((iv 8 5).toInt.toNat + ((x31_5 : Int32).toInt).toNat)).toInt := congrArg Int32.toInt (ev38.trans (congrArg (fa 8 1) (show (v37 : Int32).toNatClampNeg = (iv 8 5).toInt.toNat + ((x31_5 : Int32).toInt).toNat from (by show (v37 : Int32).toInt.toNat = _; omega))))
                    have q1 : (r36 : Int32).toInt = ((S_byt.getD 3 []).getD (a.toInt.toNat + ((x31_5 : Int32).toInt).toNat) 0).toInt := congrArg Int32.toInt (hr36.trans (congrArg (fun z => (S_byt.getD 3 []).getD z 0) (show (v35 : Int32).toNatClampNeg = a.toInt.toNat + ((x31_5 : Int32).toInt).toNat from (by show (v35 : Int32).toInt.toNat = _; omega))))
                    show (fa 8 1 ((iv 8 5).toInt.toNat + ((x31_5 : Int32).toInt).toNat)).toInt = ((S_byt.getD 3 []).getD (a.toInt.toNat + ((x31_5 : Int32).toInt).toNat) 0).toInt
                    omega)) (by omega) ls (lv_sub hl [0, 1, 2, 3, 4, 5] rfl)
          · have fc39 := z_ne (rfl : (r36).toInt = _) (rfl : (v38).toInt = _) c39
            refine lv_iconst (v := 0) hx hb dX8_isSame_49 (by decide) ?_
            have : (0 : Int32).toInt = 0 := (by decide)
            exact W.zret (v := 0) hx hb hr rfl (fun t ht9 hW => ⟨0, rfl, ⟨⟨by decide, by decide⟩, (show (((0 : Int32).toInt = 1 ∧ WdG (fun j => ((fa 8 1) j).toInt) ((iv 8 5) : Int32).toInt (d).toInt ((b).toInt - (a).toInt) (LsW 3 (a).toInt)) ∨ ((0 : Int32).toInt = 0 ∧ ¬ WdG (fun j => ((fa 8 1) j).toInt) ((iv 8 5) : Int32).toInt (d).toInt ((b).toInt - (a).toInt) (LsW 3 (a).toInt))) from (by
                  refine Or.inr ⟨by omega, fun h9 => ?_⟩
                  obtain ⟨-, h8⟩ := h9
                  have h7 : (fa 8 1 ((iv 8 5).toInt.toNat + ((x31_5 : Int32).toInt).toNat)).toInt = ((S_byt.getD 3 []).getD (a.toInt.toNat + ((x31_5 : Int32).toInt).toNat) 0).toInt := h8 ((x31_5 : Int32).toInt).toNat (by omega)
                  have q0 : (v38 : Int32).toInt = (fa 8 1 ((iv 8 5).toInt.toNat + ((x31_5 : Int32).toInt).toNat)).toInt := congrArg Int32.toInt (ev38.trans (congrArg (fa 8 1) (show (v37 : Int32).toNatClampNeg = (iv 8 5).toInt.toNat + ((x31_5 : Int32).toInt).toNat from (by show (v37 : Int32).toInt.toNat = _; omega))))
                  have q1 : (r36 : Int32).toInt = ((S_byt.getD 3 []).getD (a.toInt.toNat + ((x31_5 : Int32).toInt).toNat) 0).toInt := congrArg Int32.toInt (hr36.trans (congrArg (fun z => (S_byt.getD 3 []).getD z 0) (show (v35 : Int32).toNatClampNeg = a.toInt.toNat + ((x31_5 : Int32).toInt).toNat from (by show (v35 : Int32).toInt.toNat = _; omega))))
                  omega))⟩, ht9⟩) (fun q hq => by cases hq) dX8_isSame_50
    have : (0 : Int32).toInt = 0 := (by decide)
    exact lp32 3 0 ⟨by decide, by decide⟩ (show ∀ j : Nat, (j : Int) < (0 : Int32).toInt → (fun j => ((fa 8 1) j).toInt) ((((iv 8 5) : Int32).toInt).toNat + j) = LsW 3 (a).toInt j from (fun j hj => absurd hj (by omega))) (by first | decide | omega) ls (lv_sub hl [0, 1, 2, 3, 4, 5] rfl)
  · have fc3 := z_ne (rfl : (v1).toInt = _) (rfl : (v2).toInt = _) c3
    refine lv_iconst (v := 0) hx hb dX8_isSame_13 (by decide) ?_
    have : (0 : Int32).toInt = 0 := (by decide)
    exact W.zret (v := 0) hx hb hr rfl (fun t ht9 hW => ⟨0, rfl, ⟨⟨by decide, by decide⟩, (show (((0 : Int32).toInt = 1 ∧ WdG (fun j => ((fa 8 1) j).toInt) ((iv 8 5) : Int32).toInt (d).toInt ((b).toInt - (a).toInt) (LsW 3 (a).toInt)) ∨ ((0 : Int32).toInt = 0 ∧ ¬ WdG (fun j => ((fa 8 1) j).toInt) ((iv 8 5) : Int32).toInt (d).toInt ((b).toInt - (a).toInt) (LsW 3 (a).toInt))) from (Or.inr ⟨by omega, fun h9 => (by obtain ⟨h8, -⟩ := h9; omega)⟩))⟩, ht9⟩) (fun q hq => by cases hq) dX8_isSame_14
