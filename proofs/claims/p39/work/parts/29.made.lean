/-! ===== made ===== -/
set_option maxHeartbeats 4000000 in
set_option maxRecDepth 100000 in
/-- X12_init -/
theorem c_X12_init (l : Launch) (dC : Nat → ClassId) (dI : Nat → Nat → Nat) (sz : Nat) (h : Nat) : Met l yX12_init (wc yX12_init cX12_init 1 none) ({ frames := 1, cells := 45, slots := 2765, locals := 40 } : Room) (pW (dC, dI) classes [(h, .inr (12, [.int 0, .int 0, .null, .int 0, .null, .null, .null, .null, .null, .null, .null, .null, .null, .int 0, .null, .null, .null, .long 0, .long 0, .int 0, .int 0, .int 0, .int 0, .int 0, .null, .null, .null, .null, .null, .null, .null, .null, .null, .int 0, .int 0, .int 0, .int 0, .int 0, .int 0, .null, .null, .int 0, .null, .null, .long 0, .long 0, .long 0, .long 0, .int 0, .null, .null, .null, .null, .null, .null, .null, .null, .int 0, .null, .null, .int 0, .int 0, .int 0, .null, .null, .int 0, .int 0, .int 0, .null, .null, .null, .null, .null, .null, .null]))] [] sz [.ref h]) (va_Qv (fun _ : ((Nat → Nat → Nat) × (Nat → Nat → ClassId)) => True) (fun u t => va_P (dC, dI) classes [(h, .inr (12, [.int 0, .int 0, .ref (u.1 12 2), .int 0, .ref (u.1 12 4), .ref (u.1 12 5), .ref (u.1 12 6), .ref (u.1 12 7), .ref (u.1 12 8), .ref (u.1 12 9), .ref (u.1 12 10), .ref (u.1 12 11), .ref (u.1 12 12), .int 0, .ref (u.1 12 14), .ref (u.1 12 15), .ref (u.1 12 16), .long 0, .long 0, .int 0, .int (-1), .int (-1), .int (-1), .int 0, .ref (u.1 12 24), .ref (u.1 12 25), .ref (u.1 12 26), .ref (u.1 12 27), .ref (u.1 12 28), .ref (u.1 12 29), .ref (u.1 12 30), .ref (u.1 12 31), .ref (u.1 12 32), .int 0, .int 0, .int 0, .int (-1), .int 0, .int 0, .ref (u.1 12 39), .ref (u.1 12 40), .int 0, .ref (u.1 12 42), .ref (u.1 12 43), .long 0, .long 0, .long 0, .long 0, .int 0, .ref (u.1 12 49), .ref (u.1 12 50), .ref (u.1 12 51), .ref (u.1 12 52), .ref (u.1 12 53), .ref (u.1 12 54), .ref (u.1 12 55), .ref (u.1 12 56), .int 0, .ref (u.1 12 58), .ref (u.1 12 59), .int 0, .int 0, .int 0, .ref (u.1 12 63), .ref (u.1 12 64), .int 0, .int 0, .int 0, .ref (u.1 12 68), .ref (u.1 12 69), .ref (u.1 12 70), .ref (u.1 12 71), .ref (u.1 12 72), .ref (u.1 12 73), .ref (u.1 12 74)])), ((u.1 12 2), .inl ((u.2 12 2), 10, .inl (fun _ => 0))), ((u.1 12 4), .inl ((u.2 12 4), 60, .inl (fun _ => 0))), ((u.1 12 5), .inl ((u.2 12 5), 60, .inl (fun _ => 0))), ((u.1 12 6), .inl ((u.2 12 6), 60, .inl (fun _ => 0))), ((u.1 12 7), .inl ((u.2 12 7), 60, .inl (fun _ => 0))), ((u.1 12 8), .inl ((u.2 12 8), 60, .inl (fun _ => 0))), ((u.1 12 9), .inl ((u.2 12 9), 60, .inl (fun _ => 0))), ((u.1 12 10), .inl ((u.2 12 10), 60, .inl (fun _ => 0))), ((u.1 12 11), .inl ((u.2 12 11), 60, .inl (fun _ => 0))), ((u.1 12 12), .inl ((u.2 12 12), 60, .inl (fun _ => 0))), ((u.1 12 14), .inl ((u.2 12 14), 30, .inl (fun _ => 0))), ((u.1 12 15), .inl ((u.2 12 15), 30, .inl (fun _ => 0))), ((u.1 12 16), .inl ((u.2 12 16), 30, .inl (fun _ => 0))), ((u.1 12 24), .inl ((u.2 12 24), 8, .inl (fun _ => 0))), ((u.1 12 25), .inl ((u.2 12 25), 8, .inl (fun _ => 0))), ((u.1 12 26), .inl ((u.2 12 26), 96, .inl (fun _ => 0))), ((u.1 12 27), .inl ((u.2 12 27), 96, .inl (fun _ => 0))), ((u.1 12 28), .inl ((u.2 12 28), 96, .inl (fun _ => 0))), ((u.1 12 29), .inl ((u.2 12 29), 96, .inl (fun _ => 0))), ((u.1 12 30), .inl ((u.2 12 30), 96, .inl (fun _ => 0))), ((u.1 12 31), .inl ((u.2 12 31), 768, .inl (fun _ => 0))), ((u.1 12 32), .inl ((u.2 12 32), 200, .inl (fun _ => 0))), ((u.1 12 39), .inl ((u.2 12 39), 8, .inl (fun _ => 0))), ((u.1 12 40), .inl ((u.2 12 40), 8, .inl (fun _ => 0))), ((u.1 12 42), .inl ((u.2 12 42), 3, .inr (.inl (fun _ => 0)))), ((u.1 12 43), .inl ((u.2 12 43), 3, .inr (.inl (fun _ => 0)))), ((u.1 12 49), .inl ((u.2 12 49), 80, .inl (fun _ => 0))), ((u.1 12 50), .inl ((u.2 12 50), 12, .inl (fun _ => 0))), ((u.1 12 51), .inl ((u.2 12 51), 10, .inl (fun _ => 0))), ((u.1 12 52), .inl ((u.2 12 52), 120, .inl (fun _ => 0))), ((u.1 12 53), .inl ((u.2 12 53), 10, .inl (fun _ => 0))), ((u.1 12 54), .inl ((u.2 12 54), 80, .inl (fun _ => 0))), ((u.1 12 55), .inl ((u.2 12 55), 10, .inl (fun _ => 0))), ((u.1 12 56), .inl ((u.2 12 56), 10, .inl (fun _ => 0))), ((u.1 12 58), .inl ((u.2 12 58), 8, .inl (fun _ => 0))), ((u.1 12 59), .inl ((u.2 12 59), 3, .inl (fun _ => 0))), ((u.1 12 63), .inl ((u.2 12 63), 8, .inl (fun _ => 0))), ((u.1 12 64), .inl ((u.2 12 64), 8, .inl (fun _ => 0))), ((u.1 12 68), .inl ((u.2 12 68), 40, .inl (fun _ => 0))), ((u.1 12 69), .inl ((u.2 12 69), 40, .inl (fun _ => 0))), ((u.1 12 70), .inl ((u.2 12 70), 40, .inr (.inl (fun _ => 0)))), ((u.1 12 71), .inl ((u.2 12 71), 40, .inl (fun _ => 0))), ((u.1 12 72), .inl ((u.2 12 72), 40, .inl (fun _ => 0))), ((u.1 12 73), .inl ((u.2 12 73), 40, .inl (fun _ => 0))), ((u.1 12 74), .inl ((u.2 12 74), 40, .inl (fun _ => 0)))] t.heap ∧ va_K (dC, dI) classes [((u.2 12 2), .int), ((u.2 12 4), .int), ((u.2 12 5), .int), ((u.2 12 6), .int), ((u.2 12 7), .int), ((u.2 12 8), .int), ((u.2 12 9), .int), ((u.2 12 10), .int), ((u.2 12 11), .int), ((u.2 12 12), .int), ((u.2 12 14), .int), ((u.2 12 15), .int), ((u.2 12 16), .int), ((u.2 12 24), .int), ((u.2 12 25), .int), ((u.2 12 26), .int), ((u.2 12 27), .int), ((u.2 12 28), .int), ((u.2 12 29), .int), ((u.2 12 30), .int), ((u.2 12 31), .int), ((u.2 12 32), .int), ((u.2 12 39), .boolean), ((u.2 12 40), .int), ((u.2 12 42), .long), ((u.2 12 43), .long), ((u.2 12 49), .int), ((u.2 12 50), .int), ((u.2 12 51), .int), ((u.2 12 52), .int), ((u.2 12 53), .int), ((u.2 12 54), .int), ((u.2 12 55), .int), ((u.2 12 56), .int), ((u.2 12 58), .int), ((u.2 12 59), .int), ((u.2 12 63), .int), ((u.2 12 64), .int), ((u.2 12 68), .int), ((u.2 12 69), .int), ((u.2 12 70), .long), ((u.2 12 71), .int), ((u.2 12 72), .int), ((u.2 12 73), .int), ((u.2 12 74), .int)] t ∧ va_D (va_A [(h, .inr (12, [.int 0, .int 0, .null, .int 0, .null, .null, .null, .null, .null, .null, .null, .null, .null, .int 0, .null, .null, .null, .long 0, .long 0, .int 0, .int 0, .int 0, .int 0, .int 0, .null, .null, .null, .null, .null, .null, .null, .null, .null, .int 0, .int 0, .int 0, .int 0, .int 0, .int 0, .null, .null, .int 0, .null, .null, .long 0, .long 0, .long 0, .long 0, .int 0, .null, .null, .null, .null, .null, .null, .null, .null, .int 0, .null, .null, .int 0, .int 0, .int 0, .null, .null, .int 0, .int 0, .int 0, .null, .null, .null, .null, .null, .null, .null]))] sz) [(h, .inr (12, [.int 0, .int 0, .ref (u.1 12 2), .int 0, .ref (u.1 12 4), .ref (u.1 12 5), .ref (u.1 12 6), .ref (u.1 12 7), .ref (u.1 12 8), .ref (u.1 12 9), .ref (u.1 12 10), .ref (u.1 12 11), .ref (u.1 12 12), .int 0, .ref (u.1 12 14), .ref (u.1 12 15), .ref (u.1 12 16), .long 0, .long 0, .int 0, .int (-1), .int (-1), .int (-1), .int 0, .ref (u.1 12 24), .ref (u.1 12 25), .ref (u.1 12 26), .ref (u.1 12 27), .ref (u.1 12 28), .ref (u.1 12 29), .ref (u.1 12 30), .ref (u.1 12 31), .ref (u.1 12 32), .int 0, .int 0, .int 0, .int (-1), .int 0, .int 0, .ref (u.1 12 39), .ref (u.1 12 40), .int 0, .ref (u.1 12 42), .ref (u.1 12 43), .long 0, .long 0, .long 0, .long 0, .int 0, .ref (u.1 12 49), .ref (u.1 12 50), .ref (u.1 12 51), .ref (u.1 12 52), .ref (u.1 12 53), .ref (u.1 12 54), .ref (u.1 12 55), .ref (u.1 12 56), .int 0, .ref (u.1 12 58), .ref (u.1 12 59), .int 0, .int 0, .int 0, .ref (u.1 12 63), .ref (u.1 12 64), .int 0, .int 0, .int 0, .ref (u.1 12 68), .ref (u.1 12 69), .ref (u.1 12 70), .ref (u.1 12 71), .ref (u.1 12 72), .ref (u.1 12 73), .ref (u.1 12 74)])), ((u.1 12 2), .inl ((u.2 12 2), 10, .inl (fun _ => 0))), ((u.1 12 4), .inl ((u.2 12 4), 60, .inl (fun _ => 0))), ((u.1 12 5), .inl ((u.2 12 5), 60, .inl (fun _ => 0))), ((u.1 12 6), .inl ((u.2 12 6), 60, .inl (fun _ => 0))), ((u.1 12 7), .inl ((u.2 12 7), 60, .inl (fun _ => 0))), ((u.1 12 8), .inl ((u.2 12 8), 60, .inl (fun _ => 0))), ((u.1 12 9), .inl ((u.2 12 9), 60, .inl (fun _ => 0))), ((u.1 12 10), .inl ((u.2 12 10), 60, .inl (fun _ => 0))), ((u.1 12 11), .inl ((u.2 12 11), 60, .inl (fun _ => 0))), ((u.1 12 12), .inl ((u.2 12 12), 60, .inl (fun _ => 0))), ((u.1 12 14), .inl ((u.2 12 14), 30, .inl (fun _ => 0))), ((u.1 12 15), .inl ((u.2 12 15), 30, .inl (fun _ => 0))), ((u.1 12 16), .inl ((u.2 12 16), 30, .inl (fun _ => 0))), ((u.1 12 24), .inl ((u.2 12 24), 8, .inl (fun _ => 0))), ((u.1 12 25), .inl ((u.2 12 25), 8, .inl (fun _ => 0))), ((u.1 12 26), .inl ((u.2 12 26), 96, .inl (fun _ => 0))), ((u.1 12 27), .inl ((u.2 12 27), 96, .inl (fun _ => 0))), ((u.1 12 28), .inl ((u.2 12 28), 96, .inl (fun _ => 0))), ((u.1 12 29), .inl ((u.2 12 29), 96, .inl (fun _ => 0))), ((u.1 12 30), .inl ((u.2 12 30), 96, .inl (fun _ => 0))), ((u.1 12 31), .inl ((u.2 12 31), 768, .inl (fun _ => 0))), ((u.1 12 32), .inl ((u.2 12 32), 200, .inl (fun _ => 0))), ((u.1 12 39), .inl ((u.2 12 39), 8, .inl (fun _ => 0))), ((u.1 12 40), .inl ((u.2 12 40), 8, .inl (fun _ => 0))), ((u.1 12 42), .inl ((u.2 12 42), 3, .inr (.inl (fun _ => 0)))), ((u.1 12 43), .inl ((u.2 12 43), 3, .inr (.inl (fun _ => 0)))), ((u.1 12 49), .inl ((u.2 12 49), 80, .inl (fun _ => 0))), ((u.1 12 50), .inl ((u.2 12 50), 12, .inl (fun _ => 0))), ((u.1 12 51), .inl ((u.2 12 51), 10, .inl (fun _ => 0))), ((u.1 12 52), .inl ((u.2 12 52), 120, .inl (fun _ => 0))), ((u.1 12 53), .inl ((u.2 12 53), 10, .inl (fun _ => 0))), ((u.1 12 54), .inl ((u.2 12 54), 80, .inl (fun _ => 0))), ((u.1 12 55), .inl ((u.2 12 55), 10, .inl (fun _ => 0))), ((u.1 12 56), .inl ((u.2 12 56), 10, .inl (fun _ => 0))), ((u.1 12 58), .inl ((u.2 12 58), 8, .inl (fun _ => 0))), ((u.1 12 59), .inl ((u.2 12 59), 3, .inl (fun _ => 0))), ((u.1 12 63), .inl ((u.2 12 63), 8, .inl (fun _ => 0))), ((u.1 12 64), .inl ((u.2 12 64), 8, .inl (fun _ => 0))), ((u.1 12 68), .inl ((u.2 12 68), 40, .inl (fun _ => 0))), ((u.1 12 69), .inl ((u.2 12 69), 40, .inl (fun _ => 0))), ((u.1 12 70), .inl ((u.2 12 70), 40, .inr (.inl (fun _ => 0)))), ((u.1 12 71), .inl ((u.2 12 71), 40, .inl (fun _ => 0))), ((u.1 12 72), .inl ((u.2 12 72), 40, .inl (fun _ => 0))), ((u.1 12 73), .inl ((u.2 12 73), 40, .inl (fun _ => 0))), ((u.1 12 74), .inl ((u.2 12 74), 40, .inl (fun _ => 0)))]) (va_A [(h, .inr (12, [.int 0, .int 0, .null, .int 0, .null, .null, .null, .null, .null, .null, .null, .null, .null, .int 0, .null, .null, .null, .long 0, .long 0, .int 0, .int 0, .int 0, .int 0, .int 0, .null, .null, .null, .null, .null, .null, .null, .null, .null, .int 0, .int 0, .int 0, .int 0, .int 0, .int 0, .null, .null, .int 0, .null, .null, .long 0, .long 0, .long 0, .long 0, .int 0, .null, .null, .null, .null, .null, .null, .null, .null, .int 0, .null, .null, .int 0, .int 0, .int 0, .null, .null, .int 0, .int 0, .int 0, .null, .null, .null, .null, .null, .null, .null]))] sz)) 45 2765 (va_A [(h, .inr (12, [.int 0, .int 0, .null, .int 0, .null, .null, .null, .null, .null, .null, .null, .null, .null, .int 0, .null, .null, .null, .long 0, .long 0, .int 0, .int 0, .int 0, .int 0, .int 0, .null, .null, .null, .null, .null, .null, .null, .null, .null, .int 0, .int 0, .int 0, .int 0, .int 0, .int 0, .null, .null, .int 0, .null, .null, .long 0, .long 0, .long 0, .long 0, .int 0, .null, .null, .null, .null, .null, .null, .null, .null, .int 0, .null, .null, .int 0, .int 0, .int 0, .null, .null, .int 0, .int 0, .int 0, .null, .null, .null, .null, .null, .null, .null]))] sz) := by
  refine Met.ofW (cc := cX12_init) (maxL := 1) (ret := none) (by decide) rfl ?_
  intro p e s m args below meth c s₁ B hml hv
  obtain ⟨rfl, hsz, hP, hK, hD0⟩ := hv
  have hx := B.exec
  have hb := B.bytes
  have hr := B.returns
  have ht := tb_tl (atoms_spec (ws := wc yX12_init cX12_init 1 none) B.pre)
  have hown : s.vm.findClass RX12 = some m.cls := findClass_of_methodNamed B.named
  have hlocks := B.notSynchronized
  have hin : meth.name = "<init>" := (name_of_methodNamed B.named B.method).1
  subst hsz
  have hD := hD0.self (sz := s.heap.size)
  generalize hAe : va_A [(h, .inr (12, [.int 0, .int 0, .null, .int 0, .null, .null, .null, .null, .null, .null, .null, .null, .null, .int 0, .null, .null, .null, .long 0, .long 0, .int 0, .int 0, .int 0, .int 0, .int 0, .null, .null, .null, .null, .null, .null, .null, .null, .null, .int 0, .int 0, .int 0, .int 0, .int 0, .int 0, .null, .null, .int 0, .null, .null, .long 0, .long 0, .long 0, .long 0, .int 0, .null, .null, .null, .null, .null, .null, .null, .null, .int 0, .null, .null, .int 0, .int 0, .int 0, .null, .null, .int 0, .int 0, .int 0, .null, .null, .null, .null, .null, .null, .null]))] s.heap.size = A at hD ⊢
  have hA : ∀ q : Nat, s.heap.size ≤ q → A q := fun q h => by rw [← hAe]; exact Or.inr h
  have hS : va_S A s.heap s.heap [] := va_S.rf
  have hP : va_P (dC, dI) classes [(h, .inr (12, [.int 0, .int 0, .null, .int 0, .null, .null, .null, .null, .null, .null, .null, .null, .null, .int 0, .null, .null, .null, .long 0, .long 0, .int 0, .int 0, .int 0, .int 0, .int 0, .null, .null, .null, .null, .null, .null, .null, .null, .null, .int 0, .int 0, .int 0, .int 0, .int 0, .int 0, .null, .null, .int 0, .null, .null, .long 0, .long 0, .long 0, .long 0, .int 0, .null, .null, .null, .null, .null, .null, .null, .null, .int 0, .null, .null, .int 0, .int 0, .int 0, .null, .null, .int 0, .int 0, .int 0, .null, .null, .null, .null, .null, .null, .null]))] s.heap := hP
  have hl := lv_entry [.ref h] (n := 1) (Nat.le_of_ble_eq_true rfl)
  rw [lg_entry_eq]
  generalize (lg_sl [.ref h] ++ List.replicate (1 - (lg_sl [.ref h]).length) Slot.unset).toArray = ls at hl ⊢
  have hl : lv_has ls 1 [(0, .ref h)] := hl
  refine lv_aload_n hx hb dX12_init_0 rfl (lv_at hl 0 rfl) ?_
  refine W.objInit hx hb hown (ht _ m_1138) (ht _ m_103) (ht _ m_104) rfl (by rw [hml]; exact hl.1) rfl dX12_init_1 (Nat.le_of_ble_eq_true rfl) (Nat.le_of_ble_eq_true rfl) ?_
  refine W.eq (g2 := F0 m 4 ls []) rfl ?_
  refine lv_aload_n hx hb dX12_init_4 rfl (lv_at hl 0 rfl) ?_
  refine lv_bipush (v := 10) hx hb dX12_init_5 (by decide) ?_
  refine va_newa (atype := .int) (ty := .int) (a0 := (10, .inl (fun _ => 0))) (N' := 10) hx hb (ht _ m_125) rfl hK hP hD hS hA (fun _ => rfl) (by decide) (by decide) (by decide) (Nat.le_of_ble_eq_true rfl) (Nat.le_of_ble_eq_true rfl) dX12_init_7 (fun q1 ca2 H hK hP hD hS => ?_)
  refine W.widen (k := 1) (n := 10) (by decide) (by decide) ?_
  refine va_putF (D := (dC, dI)) (ci := 12) (v := .ref q1) (ty := (.array .int)) (C := RX12) (T := TX12) (N := 75) hx hb ht inX12 tyX12 tyX12_ok nmX12 hown hK hP hD hS 0 rfl rfl 2 (by decide) (ht _ m_1141) (fun _ h9 => h9) rfl hin rfl (by decide +kernel) rfl rfl (Nat.le_of_ble_eq_true rfl) dX12_init_9 (fun H locs hP hD hS => ?_)
  refine lv_aload_n hx hb dX12_init_12 rfl (lv_at hl 0 rfl) ?_
  refine lv_bipush (v := 60) hx hb dX12_init_13 (by decide) ?_
  refine va_newa (atype := .int) (ty := .int) (a0 := (60, .inl (fun _ => 0))) (N' := 60) hx hb (ht _ m_125) rfl hK hP hD hS hA (fun _ => rfl) (by decide) (by decide) (by decide) (Nat.le_of_ble_eq_true rfl) (Nat.le_of_ble_eq_true rfl) dX12_init_15 (fun q3 ca4 H hK hP hD hS => ?_)
  refine W.widen (k := 2) (n := 70) (by decide) (by decide) ?_
  refine va_putF (D := (dC, dI)) (ci := 12) (v := .ref q3) (ty := (.array .int)) (C := RX12) (T := TX12) (N := 75) hx hb ht inX12 tyX12 tyX12_ok nmX12 hown hK hP hD hS 0 rfl rfl 4 (by decide) (ht _ m_1143) (fun _ h9 => h9) rfl hin rfl (by decide +kernel) rfl rfl (Nat.le_of_ble_eq_true rfl) dX12_init_17 (fun H locs hP hD hS => ?_)
  refine lv_aload_n hx hb dX12_init_20 rfl (lv_at hl 0 rfl) ?_
  refine lv_bipush (v := 60) hx hb dX12_init_21 (by decide) ?_
  refine va_newa (atype := .int) (ty := .int) (a0 := (60, .inl (fun _ => 0))) (N' := 60) hx hb (ht _ m_125) rfl hK hP hD hS hA (fun _ => rfl) (by decide) (by decide) (by decide) (Nat.le_of_ble_eq_true rfl) (Nat.le_of_ble_eq_true rfl) dX12_init_23 (fun q5 ca6 H hK hP hD hS => ?_)
  refine W.widen (k := 3) (n := 130) (by decide) (by decide) ?_
  refine va_putF (D := (dC, dI)) (ci := 12) (v := .ref q5) (ty := (.array .int)) (C := RX12) (T := TX12) (N := 75) hx hb ht inX12 tyX12 tyX12_ok nmX12 hown hK hP hD hS 0 rfl rfl 5 (by decide) (ht _ m_1144) (fun _ h9 => h9) rfl hin rfl (by decide +kernel) rfl rfl (Nat.le_of_ble_eq_true rfl) dX12_init_25 (fun H locs hP hD hS => ?_)
  refine lv_aload_n hx hb dX12_init_28 rfl (lv_at hl 0 rfl) ?_
  refine lv_bipush (v := 60) hx hb dX12_init_29 (by decide) ?_
  refine va_newa (atype := .int) (ty := .int) (a0 := (60, .inl (fun _ => 0))) (N' := 60) hx hb (ht _ m_125) rfl hK hP hD hS hA (fun _ => rfl) (by decide) (by decide) (by decide) (Nat.le_of_ble_eq_true rfl) (Nat.le_of_ble_eq_true rfl) dX12_init_31 (fun q7 ca8 H hK hP hD hS => ?_)
  refine W.widen (k := 4) (n := 190) (by decide) (by decide) ?_
  refine va_putF (D := (dC, dI)) (ci := 12) (v := .ref q7) (ty := (.array .int)) (C := RX12) (T := TX12) (N := 75) hx hb ht inX12 tyX12 tyX12_ok nmX12 hown hK hP hD hS 0 rfl rfl 6 (by decide) (ht _ m_1145) (fun _ h9 => h9) rfl hin rfl (by decide +kernel) rfl rfl (Nat.le_of_ble_eq_true rfl) dX12_init_33 (fun H locs hP hD hS => ?_)
  have hK : va_K (dC, dI) classes [(ca2, .int), (ca4, .int), (ca6, .int), (ca8, .int)] s := hK
  obtain ⟨ws9, hP, hD, he9⟩ : ∃ ws9 : va_W, va_P (dC, dI) classes ws9 H ∧ va_D A ws9 ∧ ws9 = [(h, .inr (12, [.int 0, .int 0, .ref q1, .int 0, .ref q3, .ref q5, .ref q7, .null, .null, .null, .null, .null, .null, .int 0, .null, .null, .null, .long 0, .long 0, .int 0, .int 0, .int 0, .int 0, .int 0, .null, .null, .null, .null, .null, .null, .null, .null, .null, .int 0, .int 0, .int 0, .int 0, .int 0, .int 0, .null, .null, .int 0, .null, .null, .long 0, .long 0, .long 0, .long 0, .int 0, .null, .null, .null, .null, .null, .null, .null, .null, .int 0, .null, .null, .int 0, .int 0, .int 0, .null, .null, .int 0, .int 0, .int 0, .null, .null, .null, .null, .null, .null, .null])), (q1, .inl (ca2, 10, .inl (fun _ => 0))), (q3, .inl (ca4, 60, .inl (fun _ => 0))), (q5, .inl (ca6, 60, .inl (fun _ => 0))), (q7, .inl (ca8, 60, .inl (fun _ => 0)))] := ⟨_, hP, hD, rfl⟩
  subst he9
  refine lv_aload_n hx hb dX12_init_36 rfl (lv_at hl 0 rfl) ?_
  refine lv_bipush (v := 60) hx hb dX12_init_37 (by decide) ?_
  refine va_newa (atype := .int) (ty := .int) (a0 := (60, .inl (fun _ => 0))) (N' := 60) hx hb (ht _ m_125) rfl hK hP hD hS hA (fun _ => rfl) (by decide) (by decide) (by decide) (Nat.le_of_ble_eq_true rfl) (Nat.le_of_ble_eq_true rfl) dX12_init_39 (fun q9 ca10 H hK hP hD hS => ?_)
  refine W.widen (k := 5) (n := 250) (by decide) (by decide) ?_
  refine va_putF (D := (dC, dI)) (ci := 12) (v := .ref q9) (ty := (.array .int)) (C := RX12) (T := TX12) (N := 75) hx hb ht inX12 tyX12 tyX12_ok nmX12 hown hK hP hD hS 0 rfl rfl 7 (by decide) (ht _ m_1146) (fun _ h9 => h9) rfl hin rfl (by decide +kernel) rfl rfl (Nat.le_of_ble_eq_true rfl) dX12_init_41 (fun H locs hP hD hS => ?_)
  refine lv_aload_n hx hb dX12_init_44 rfl (lv_at hl 0 rfl) ?_
  refine lv_bipush (v := 60) hx hb dX12_init_45 (by decide) ?_
  refine va_newa (atype := .int) (ty := .int) (a0 := (60, .inl (fun _ => 0))) (N' := 60) hx hb (ht _ m_125) rfl hK hP hD hS hA (fun _ => rfl) (by decide) (by decide) (by decide) (Nat.le_of_ble_eq_true rfl) (Nat.le_of_ble_eq_true rfl) dX12_init_47 (fun q11 ca12 H hK hP hD hS => ?_)
  refine W.widen (k := 6) (n := 310) (by decide) (by decide) ?_
  refine va_putF (D := (dC, dI)) (ci := 12) (v := .ref q11) (ty := (.array .int)) (C := RX12) (T := TX12) (N := 75) hx hb ht inX12 tyX12 tyX12_ok nmX12 hown hK hP hD hS 0 rfl rfl 8 (by decide) (ht _ m_1147) (fun _ h9 => h9) rfl hin rfl (by decide +kernel) rfl rfl (Nat.le_of_ble_eq_true rfl) dX12_init_49 (fun H locs hP hD hS => ?_)
  refine lv_aload_n hx hb dX12_init_52 rfl (lv_at hl 0 rfl) ?_
  refine lv_bipush (v := 60) hx hb dX12_init_53 (by decide) ?_
  refine va_newa (atype := .int) (ty := .int) (a0 := (60, .inl (fun _ => 0))) (N' := 60) hx hb (ht _ m_125) rfl hK hP hD hS hA (fun _ => rfl) (by decide) (by decide) (by decide) (Nat.le_of_ble_eq_true rfl) (Nat.le_of_ble_eq_true rfl) dX12_init_55 (fun q13 ca14 H hK hP hD hS => ?_)
  refine W.widen (k := 7) (n := 370) (by decide) (by decide) ?_
  refine va_putF (D := (dC, dI)) (ci := 12) (v := .ref q13) (ty := (.array .int)) (C := RX12) (T := TX12) (N := 75) hx hb ht inX12 tyX12 tyX12_ok nmX12 hown hK hP hD hS 0 rfl rfl 9 (by decide) (ht _ m_1148) (fun _ h9 => h9) rfl hin rfl (by decide +kernel) rfl rfl (Nat.le_of_ble_eq_true rfl) dX12_init_57 (fun H locs hP hD hS => ?_)
  refine lv_aload_n hx hb dX12_init_60 rfl (lv_at hl 0 rfl) ?_
  refine lv_bipush (v := 60) hx hb dX12_init_61 (by decide) ?_
  refine va_newa (atype := .int) (ty := .int) (a0 := (60, .inl (fun _ => 0))) (N' := 60) hx hb (ht _ m_125) rfl hK hP hD hS hA (fun _ => rfl) (by decide) (by decide) (by decide) (Nat.le_of_ble_eq_true rfl) (Nat.le_of_ble_eq_true rfl) dX12_init_63 (fun q15 ca16 H hK hP hD hS => ?_)
  refine W.widen (k := 8) (n := 430) (by decide) (by decide) ?_
  refine va_putF (D := (dC, dI)) (ci := 12) (v := .ref q15) (ty := (.array .int)) (C := RX12) (T := TX12) (N := 75) hx hb ht inX12 tyX12 tyX12_ok nmX12 hown hK hP hD hS 0 rfl rfl 10 (by decide) (ht _ m_1149) (fun _ h9 => h9) rfl hin rfl (by decide +kernel) rfl rfl (Nat.le_of_ble_eq_true rfl) dX12_init_65 (fun H locs hP hD hS => ?_)
  have hK : va_K (dC, dI) classes [(ca2, .int), (ca4, .int), (ca6, .int), (ca8, .int), (ca10, .int), (ca12, .int), (ca14, .int), (ca16, .int)] s := hK
  obtain ⟨ws9, hP, hD, he9⟩ : ∃ ws9 : va_W, va_P (dC, dI) classes ws9 H ∧ va_D A ws9 ∧ ws9 = [(h, .inr (12, [.int 0, .int 0, .ref q1, .int 0, .ref q3, .ref q5, .ref q7, .ref q9, .ref q11, .ref q13, .ref q15, .null, .null, .int 0, .null, .null, .null, .long 0, .long 0, .int 0, .int 0, .int 0, .int 0, .int 0, .null, .null, .null, .null, .null, .null, .null, .null, .null, .int 0, .int 0, .int 0, .int 0, .int 0, .int 0, .null, .null, .int 0, .null, .null, .long 0, .long 0, .long 0, .long 0, .int 0, .null, .null, .null, .null, .null, .null, .null, .null, .int 0, .null, .null, .int 0, .int 0, .int 0, .null, .null, .int 0, .int 0, .int 0, .null, .null, .null, .null, .null, .null, .null])), (q1, .inl (ca2, 10, .inl (fun _ => 0))), (q3, .inl (ca4, 60, .inl (fun _ => 0))), (q5, .inl (ca6, 60, .inl (fun _ => 0))), (q7, .inl (ca8, 60, .inl (fun _ => 0))), (q9, .inl (ca10, 60, .inl (fun _ => 0))), (q11, .inl (ca12, 60, .inl (fun _ => 0))), (q13, .inl (ca14, 60, .inl (fun _ => 0))), (q15, .inl (ca16, 60, .inl (fun _ => 0)))] := ⟨_, hP, hD, rfl⟩
  subst he9
  refine lv_aload_n hx hb dX12_init_68 rfl (lv_at hl 0 rfl) ?_
  refine lv_bipush (v := 60) hx hb dX12_init_69 (by decide) ?_
  refine va_newa (atype := .int) (ty := .int) (a0 := (60, .inl (fun _ => 0))) (N' := 60) hx hb (ht _ m_125) rfl hK hP hD hS hA (fun _ => rfl) (by decide) (by decide) (by decide) (Nat.le_of_ble_eq_true rfl) (Nat.le_of_ble_eq_true rfl) dX12_init_71 (fun q17 ca18 H hK hP hD hS => ?_)
  refine W.widen (k := 9) (n := 490) (by decide) (by decide) ?_
  refine va_putF (D := (dC, dI)) (ci := 12) (v := .ref q17) (ty := (.array .int)) (C := RX12) (T := TX12) (N := 75) hx hb ht inX12 tyX12 tyX12_ok nmX12 hown hK hP hD hS 0 rfl rfl 11 (by decide) (ht _ m_1150) (fun _ h9 => h9) rfl hin rfl (by decide +kernel) rfl rfl (Nat.le_of_ble_eq_true rfl) dX12_init_73 (fun H locs hP hD hS => ?_)
  refine lv_aload_n hx hb dX12_init_76 rfl (lv_at hl 0 rfl) ?_
  refine lv_bipush (v := 60) hx hb dX12_init_77 (by decide) ?_
  refine va_newa (atype := .int) (ty := .int) (a0 := (60, .inl (fun _ => 0))) (N' := 60) hx hb (ht _ m_125) rfl hK hP hD hS hA (fun _ => rfl) (by decide) (by decide) (by decide) (Nat.le_of_ble_eq_true rfl) (Nat.le_of_ble_eq_true rfl) dX12_init_79 (fun q19 ca20 H hK hP hD hS => ?_)
  refine W.widen (k := 10) (n := 550) (by decide) (by decide) ?_
  refine va_putF (D := (dC, dI)) (ci := 12) (v := .ref q19) (ty := (.array .int)) (C := RX12) (T := TX12) (N := 75) hx hb ht inX12 tyX12 tyX12_ok nmX12 hown hK hP hD hS 0 rfl rfl 12 (by decide) (ht _ m_1151) (fun _ h9 => h9) rfl hin rfl (by decide +kernel) rfl rfl (Nat.le_of_ble_eq_true rfl) dX12_init_81 (fun H locs hP hD hS => ?_)
  refine lv_aload_n hx hb dX12_init_84 rfl (lv_at hl 0 rfl) ?_
  refine lv_bipush (v := 30) hx hb dX12_init_85 (by decide) ?_
  refine va_newa (atype := .int) (ty := .int) (a0 := (30, .inl (fun _ => 0))) (N' := 30) hx hb (ht _ m_125) rfl hK hP hD hS hA (fun _ => rfl) (by decide) (by decide) (by decide) (Nat.le_of_ble_eq_true rfl) (Nat.le_of_ble_eq_true rfl) dX12_init_87 (fun q21 ca22 H hK hP hD hS => ?_)
  refine W.widen (k := 11) (n := 580) (by decide) (by decide) ?_
  refine va_putF (D := (dC, dI)) (ci := 12) (v := .ref q21) (ty := (.array .int)) (C := RX12) (T := TX12) (N := 75) hx hb ht inX12 tyX12 tyX12_ok nmX12 hown hK hP hD hS 0 rfl rfl 14 (by decide) (ht _ m_1153) (fun _ h9 => h9) rfl hin rfl (by decide +kernel) rfl rfl (Nat.le_of_ble_eq_true rfl) dX12_init_89 (fun H locs hP hD hS => ?_)
  refine lv_aload_n hx hb dX12_init_92 rfl (lv_at hl 0 rfl) ?_
  refine lv_bipush (v := 30) hx hb dX12_init_93 (by decide) ?_
  refine va_newa (atype := .int) (ty := .int) (a0 := (30, .inl (fun _ => 0))) (N' := 30) hx hb (ht _ m_125) rfl hK hP hD hS hA (fun _ => rfl) (by decide) (by decide) (by decide) (Nat.le_of_ble_eq_true rfl) (Nat.le_of_ble_eq_true rfl) dX12_init_95 (fun q23 ca24 H hK hP hD hS => ?_)
  refine W.widen (k := 12) (n := 610) (by decide) (by decide) ?_
  refine va_putF (D := (dC, dI)) (ci := 12) (v := .ref q23) (ty := (.array .int)) (C := RX12) (T := TX12) (N := 75) hx hb ht inX12 tyX12 tyX12_ok nmX12 hown hK hP hD hS 0 rfl rfl 15 (by decide) (ht _ m_1154) (fun _ h9 => h9) rfl hin rfl (by decide +kernel) rfl rfl (Nat.le_of_ble_eq_true rfl) dX12_init_97 (fun H locs hP hD hS => ?_)
  have hK : va_K (dC, dI) classes [(ca2, .int), (ca4, .int), (ca6, .int), (ca8, .int), (ca10, .int), (ca12, .int), (ca14, .int), (ca16, .int), (ca18, .int), (ca20, .int), (ca22, .int), (ca24, .int)] s := hK
  obtain ⟨ws9, hP, hD, he9⟩ : ∃ ws9 : va_W, va_P (dC, dI) classes ws9 H ∧ va_D A ws9 ∧ ws9 = [(h, .inr (12, [.int 0, .int 0, .ref q1, .int 0, .ref q3, .ref q5, .ref q7, .ref q9, .ref q11, .ref q13, .ref q15, .ref q17, .ref q19, .int 0, .ref q21, .ref q23, .null, .long 0, .long 0, .int 0, .int 0, .int 0, .int 0, .int 0, .null, .null, .null, .null, .null, .null, .null, .null, .null, .int 0, .int 0, .int 0, .int 0, .int 0, .int 0, .null, .null, .int 0, .null, .null, .long 0, .long 0, .long 0, .long 0, .int 0, .null, .null, .null, .null, .null, .null, .null, .null, .int 0, .null, .null, .int 0, .int 0, .int 0, .null, .null, .int 0, .int 0, .int 0, .null, .null, .null, .null, .null, .null, .null])), (q1, .inl (ca2, 10, .inl (fun _ => 0))), (q3, .inl (ca4, 60, .inl (fun _ => 0))), (q5, .inl (ca6, 60, .inl (fun _ => 0))), (q7, .inl (ca8, 60, .inl (fun _ => 0))), (q9, .inl (ca10, 60, .inl (fun _ => 0))), (q11, .inl (ca12, 60, .inl (fun _ => 0))), (q13, .inl (ca14, 60, .inl (fun _ => 0))), (q15, .inl (ca16, 60, .inl (fun _ => 0))), (q17, .inl (ca18, 60, .inl (fun _ => 0))), (q19, .inl (ca20, 60, .inl (fun _ => 0))), (q21, .inl (ca22, 30, .inl (fun _ => 0))), (q23, .inl (ca24, 30, .inl (fun _ => 0)))] := ⟨_, hP, hD, rfl⟩
  subst he9
  refine lv_aload_n hx hb dX12_init_100 rfl (lv_at hl 0 rfl) ?_
  refine lv_bipush (v := 30) hx hb dX12_init_101 (by decide) ?_
  refine va_newa (atype := .int) (ty := .int) (a0 := (30, .inl (fun _ => 0))) (N' := 30) hx hb (ht _ m_125) rfl hK hP hD hS hA (fun _ => rfl) (by decide) (by decide) (by decide) (Nat.le_of_ble_eq_true rfl) (Nat.le_of_ble_eq_true rfl) dX12_init_103 (fun q25 ca26 H hK hP hD hS => ?_)
  refine W.widen (k := 13) (n := 640) (by decide) (by decide) ?_
  refine va_putF (D := (dC, dI)) (ci := 12) (v := .ref q25) (ty := (.array .int)) (C := RX12) (T := TX12) (N := 75) hx hb ht inX12 tyX12 tyX12_ok nmX12 hown hK hP hD hS 0 rfl rfl 16 (by decide) (ht _ m_1155) (fun _ h9 => h9) rfl hin rfl (by decide +kernel) rfl rfl (Nat.le_of_ble_eq_true rfl) dX12_init_105 (fun H locs hP hD hS => ?_)
  refine lv_aload_n hx hb dX12_init_108 rfl (lv_at hl 0 rfl) ?_
  refine lv_iconst (v := (-1)) hx hb dX12_init_109 (by decide) ?_
  refine va_put (D := (dC, dI)) (ci := 12) (v := .int (-1)) (ty := (.int)) (C := RX12) (T := TX12) (N := 75) hx hb ht inX12 tyX12 tyX12_ok nmX12 hown hK hP hD hS 0 rfl rfl 20 (by decide) (ht _ m_1159) (fun _ h9 => h9) rfl (by decide +kernel) rfl rfl (Nat.le_of_ble_eq_true rfl) dX12_init_110 (fun H locs hP hD hS => ?_)
  refine lv_aload_n hx hb dX12_init_113 rfl (lv_at hl 0 rfl) ?_
  refine lv_iconst (v := (-1)) hx hb dX12_init_114 (by decide) ?_
  refine va_put (D := (dC, dI)) (ci := 12) (v := .int (-1)) (ty := (.int)) (C := RX12) (T := TX12) (N := 75) hx hb ht inX12 tyX12 tyX12_ok nmX12 hown hK hP hD hS 0 rfl rfl 21 (by decide) (ht _ m_1160) (fun _ h9 => h9) rfl (by decide +kernel) rfl rfl (Nat.le_of_ble_eq_true rfl) dX12_init_115 (fun H locs hP hD hS => ?_)
  refine lv_aload_n hx hb dX12_init_118 rfl (lv_at hl 0 rfl) ?_
  refine lv_iconst (v := (-1)) hx hb dX12_init_119 (by decide) ?_
  refine va_put (D := (dC, dI)) (ci := 12) (v := .int (-1)) (ty := (.int)) (C := RX12) (T := TX12) (N := 75) hx hb ht inX12 tyX12 tyX12_ok nmX12 hown hK hP hD hS 0 rfl rfl 22 (by decide) (ht _ m_1161) (fun _ h9 => h9) rfl (by decide +kernel) rfl rfl (Nat.le_of_ble_eq_true rfl) dX12_init_120 (fun H locs hP hD hS => ?_)
  have hK : va_K (dC, dI) classes [(ca2, .int), (ca4, .int), (ca6, .int), (ca8, .int), (ca10, .int), (ca12, .int), (ca14, .int), (ca16, .int), (ca18, .int), (ca20, .int), (ca22, .int), (ca24, .int), (ca26, .int)] s := hK
  obtain ⟨ws9, hP, hD, he9⟩ : ∃ ws9 : va_W, va_P (dC, dI) classes ws9 H ∧ va_D A ws9 ∧ ws9 = [(h, .inr (12, [.int 0, .int 0, .ref q1, .int 0, .ref q3, .ref q5, .ref q7, .ref q9, .ref q11, .ref q13, .ref q15, .ref q17, .ref q19, .int 0, .ref q21, .ref q23, .ref q25, .long 0, .long 0, .int 0, .int (-1), .int (-1), .int (-1), .int 0, .null, .null, .null, .null, .null, .null, .null, .null, .null, .int 0, .int 0, .int 0, .int 0, .int 0, .int 0, .null, .null, .int 0, .null, .null, .long 0, .long 0, .long 0, .long 0, .int 0, .null, .null, .null, .null, .null, .null, .null, .null, .int 0, .null, .null, .int 0, .int 0, .int 0, .null, .null, .int 0, .int 0, .int 0, .null, .null, .null, .null, .null, .null, .null])), (q1, .inl (ca2, 10, .inl (fun _ => 0))), (q3, .inl (ca4, 60, .inl (fun _ => 0))), (q5, .inl (ca6, 60, .inl (fun _ => 0))), (q7, .inl (ca8, 60, .inl (fun _ => 0))), (q9, .inl (ca10, 60, .inl (fun _ => 0))), (q11, .inl (ca12, 60, .inl (fun _ => 0))), (q13, .inl (ca14, 60, .inl (fun _ => 0))), (q15, .inl (ca16, 60, .inl (fun _ => 0))), (q17, .inl (ca18, 60, .inl (fun _ => 0))), (q19, .inl (ca20, 60, .inl (fun _ => 0))), (q21, .inl (ca22, 30, .inl (fun _ => 0))), (q23, .inl (ca24, 30, .inl (fun _ => 0))), (q25, .inl (ca26, 30, .inl (fun _ => 0)))] := ⟨_, hP, hD, rfl⟩
  subst he9
  refine lv_aload_n hx hb dX12_init_123 rfl (lv_at hl 0 rfl) ?_
  refine lv_bipush (v := 8) hx hb dX12_init_124 (by decide) ?_
  refine va_newa (atype := .int) (ty := .int) (a0 := (8, .inl (fun _ => 0))) (N' := 8) hx hb (ht _ m_125) rfl hK hP hD hS hA (fun _ => rfl) (by decide) (by decide) (by decide) (Nat.le_of_ble_eq_true rfl) (Nat.le_of_ble_eq_true rfl) dX12_init_126 (fun q27 ca28 H hK hP hD hS => ?_)
  refine W.widen (k := 14) (n := 648) (by decide) (by decide) ?_
  refine va_putF (D := (dC, dI)) (ci := 12) (v := .ref q27) (ty := (.array .int)) (C := RX12) (T := TX12) (N := 75) hx hb ht inX12 tyX12 tyX12_ok nmX12 hown hK hP hD hS 0 rfl rfl 24 (by decide) (ht _ m_1163) (fun _ h9 => h9) rfl hin rfl (by decide +kernel) rfl rfl (Nat.le_of_ble_eq_true rfl) dX12_init_128 (fun H locs hP hD hS => ?_)
  refine lv_aload_n hx hb dX12_init_131 rfl (lv_at hl 0 rfl) ?_
  refine lv_bipush (v := 8) hx hb dX12_init_132 (by decide) ?_
  refine va_newa (atype := .int) (ty := .int) (a0 := (8, .inl (fun _ => 0))) (N' := 8) hx hb (ht _ m_125) rfl hK hP hD hS hA (fun _ => rfl) (by decide) (by decide) (by decide) (Nat.le_of_ble_eq_true rfl) (Nat.le_of_ble_eq_true rfl) dX12_init_134 (fun q29 ca30 H hK hP hD hS => ?_)
  refine W.widen (k := 15) (n := 656) (by decide) (by decide) ?_
  refine va_putF (D := (dC, dI)) (ci := 12) (v := .ref q29) (ty := (.array .int)) (C := RX12) (T := TX12) (N := 75) hx hb ht inX12 tyX12 tyX12_ok nmX12 hown hK hP hD hS 0 rfl rfl 25 (by decide) (ht _ m_1164) (fun _ h9 => h9) rfl hin rfl (by decide +kernel) rfl rfl (Nat.le_of_ble_eq_true rfl) dX12_init_136 (fun H locs hP hD hS => ?_)
  refine lv_aload_n hx hb dX12_init_139 rfl (lv_at hl 0 rfl) ?_
  refine lv_bipush (v := 96) hx hb dX12_init_140 (by decide) ?_
  refine va_newa (atype := .int) (ty := .int) (a0 := (96, .inl (fun _ => 0))) (N' := 96) hx hb (ht _ m_125) rfl hK hP hD hS hA (fun _ => rfl) (by decide) (by decide) (by decide) (Nat.le_of_ble_eq_true rfl) (Nat.le_of_ble_eq_true rfl) dX12_init_142 (fun q31 ca32 H hK hP hD hS => ?_)
  refine W.widen (k := 16) (n := 752) (by decide) (by decide) ?_
  refine va_putF (D := (dC, dI)) (ci := 12) (v := .ref q31) (ty := (.array .int)) (C := RX12) (T := TX12) (N := 75) hx hb ht inX12 tyX12 tyX12_ok nmX12 hown hK hP hD hS 0 rfl rfl 26 (by decide) (ht _ m_1165) (fun _ h9 => h9) rfl hin rfl (by decide +kernel) rfl rfl (Nat.le_of_ble_eq_true rfl) dX12_init_144 (fun H locs hP hD hS => ?_)
  refine lv_aload_n hx hb dX12_init_147 rfl (lv_at hl 0 rfl) ?_
  refine lv_bipush (v := 96) hx hb dX12_init_148 (by decide) ?_
  refine va_newa (atype := .int) (ty := .int) (a0 := (96, .inl (fun _ => 0))) (N' := 96) hx hb (ht _ m_125) rfl hK hP hD hS hA (fun _ => rfl) (by decide) (by decide) (by decide) (Nat.le_of_ble_eq_true rfl) (Nat.le_of_ble_eq_true rfl) dX12_init_150 (fun q33 ca34 H hK hP hD hS => ?_)
  refine W.widen (k := 17) (n := 848) (by decide) (by decide) ?_
  refine va_putF (D := (dC, dI)) (ci := 12) (v := .ref q33) (ty := (.array .int)) (C := RX12) (T := TX12) (N := 75) hx hb ht inX12 tyX12 tyX12_ok nmX12 hown hK hP hD hS 0 rfl rfl 27 (by decide) (ht _ m_1166) (fun _ h9 => h9) rfl hin rfl (by decide +kernel) rfl rfl (Nat.le_of_ble_eq_true rfl) dX12_init_152 (fun H locs hP hD hS => ?_)
  have hK : va_K (dC, dI) classes [(ca2, .int), (ca4, .int), (ca6, .int), (ca8, .int), (ca10, .int), (ca12, .int), (ca14, .int), (ca16, .int), (ca18, .int), (ca20, .int), (ca22, .int), (ca24, .int), (ca26, .int), (ca28, .int), (ca30, .int), (ca32, .int), (ca34, .int)] s := hK
  obtain ⟨ws9, hP, hD, he9⟩ : ∃ ws9 : va_W, va_P (dC, dI) classes ws9 H ∧ va_D A ws9 ∧ ws9 = [(h, .inr (12, [.int 0, .int 0, .ref q1, .int 0, .ref q3, .ref q5, .ref q7, .ref q9, .ref q11, .ref q13, .ref q15, .ref q17, .ref q19, .int 0, .ref q21, .ref q23, .ref q25, .long 0, .long 0, .int 0, .int (-1), .int (-1), .int (-1), .int 0, .ref q27, .ref q29, .ref q31, .ref q33, .null, .null, .null, .null, .null, .int 0, .int 0, .int 0, .int 0, .int 0, .int 0, .null, .null, .int 0, .null, .null, .long 0, .long 0, .long 0, .long 0, .int 0, .null, .null, .null, .null, .null, .null, .null, .null, .int 0, .null, .null, .int 0, .int 0, .int 0, .null, .null, .int 0, .int 0, .int 0, .null, .null, .null, .null, .null, .null, .null])), (q1, .inl (ca2, 10, .inl (fun _ => 0))), (q3, .inl (ca4, 60, .inl (fun _ => 0))), (q5, .inl (ca6, 60, .inl (fun _ => 0))), (q7, .inl (ca8, 60, .inl (fun _ => 0))), (q9, .inl (ca10, 60, .inl (fun _ => 0))), (q11, .inl (ca12, 60, .inl (fun _ => 0))), (q13, .inl (ca14, 60, .inl (fun _ => 0))), (q15, .inl (ca16, 60, .inl (fun _ => 0))), (q17, .inl (ca18, 60, .inl (fun _ => 0))), (q19, .inl (ca20, 60, .inl (fun _ => 0))), (q21, .inl (ca22, 30, .inl (fun _ => 0))), (q23, .inl (ca24, 30, .inl (fun _ => 0))), (q25, .inl (ca26, 30, .inl (fun _ => 0))), (q27, .inl (ca28, 8, .inl (fun _ => 0))), (q29, .inl (ca30, 8, .inl (fun _ => 0))), (q31, .inl (ca32, 96, .inl (fun _ => 0))), (q33, .inl (ca34, 96, .inl (fun _ => 0)))] := ⟨_, hP, hD, rfl⟩
  subst he9
  refine lv_aload_n hx hb dX12_init_155 rfl (lv_at hl 0 rfl) ?_
  refine lv_bipush (v := 96) hx hb dX12_init_156 (by decide) ?_
  refine va_newa (atype := .int) (ty := .int) (a0 := (96, .inl (fun _ => 0))) (N' := 96) hx hb (ht _ m_125) rfl hK hP hD hS hA (fun _ => rfl) (by decide) (by decide) (by decide) (Nat.le_of_ble_eq_true rfl) (Nat.le_of_ble_eq_true rfl) dX12_init_158 (fun q35 ca36 H hK hP hD hS => ?_)
  refine W.widen (k := 18) (n := 944) (by decide) (by decide) ?_
  refine va_putF (D := (dC, dI)) (ci := 12) (v := .ref q35) (ty := (.array .int)) (C := RX12) (T := TX12) (N := 75) hx hb ht inX12 tyX12 tyX12_ok nmX12 hown hK hP hD hS 0 rfl rfl 28 (by decide) (ht _ m_1167) (fun _ h9 => h9) rfl hin rfl (by decide +kernel) rfl rfl (Nat.le_of_ble_eq_true rfl) dX12_init_160 (fun H locs hP hD hS => ?_)
  refine lv_aload_n hx hb dX12_init_163 rfl (lv_at hl 0 rfl) ?_
  refine lv_bipush (v := 96) hx hb dX12_init_164 (by decide) ?_
  refine va_newa (atype := .int) (ty := .int) (a0 := (96, .inl (fun _ => 0))) (N' := 96) hx hb (ht _ m_125) rfl hK hP hD hS hA (fun _ => rfl) (by decide) (by decide) (by decide) (Nat.le_of_ble_eq_true rfl) (Nat.le_of_ble_eq_true rfl) dX12_init_166 (fun q37 ca38 H hK hP hD hS => ?_)
  refine W.widen (k := 19) (n := 1040) (by decide) (by decide) ?_
  refine va_putF (D := (dC, dI)) (ci := 12) (v := .ref q37) (ty := (.array .int)) (C := RX12) (T := TX12) (N := 75) hx hb ht inX12 tyX12 tyX12_ok nmX12 hown hK hP hD hS 0 rfl rfl 29 (by decide) (ht _ m_1168) (fun _ h9 => h9) rfl hin rfl (by decide +kernel) rfl rfl (Nat.le_of_ble_eq_true rfl) dX12_init_168 (fun H locs hP hD hS => ?_)
  refine lv_aload_n hx hb dX12_init_171 rfl (lv_at hl 0 rfl) ?_
  refine lv_bipush (v := 96) hx hb dX12_init_172 (by decide) ?_
  refine va_newa (atype := .int) (ty := .int) (a0 := (96, .inl (fun _ => 0))) (N' := 96) hx hb (ht _ m_125) rfl hK hP hD hS hA (fun _ => rfl) (by decide) (by decide) (by decide) (Nat.le_of_ble_eq_true rfl) (Nat.le_of_ble_eq_true rfl) dX12_init_174 (fun q39 ca40 H hK hP hD hS => ?_)
  refine W.widen (k := 20) (n := 1136) (by decide) (by decide) ?_
  refine va_putF (D := (dC, dI)) (ci := 12) (v := .ref q39) (ty := (.array .int)) (C := RX12) (T := TX12) (N := 75) hx hb ht inX12 tyX12 tyX12_ok nmX12 hown hK hP hD hS 0 rfl rfl 30 (by decide) (ht _ m_1169) (fun _ h9 => h9) rfl hin rfl (by decide +kernel) rfl rfl (Nat.le_of_ble_eq_true rfl) dX12_init_176 (fun H locs hP hD hS => ?_)
  refine lv_aload_n hx hb dX12_init_179 rfl (lv_at hl 0 rfl) ?_
  refine lv_sipush (v := 768) hx hb dX12_init_180 (by decide) ?_
  refine va_newa (atype := .int) (ty := .int) (a0 := (768, .inl (fun _ => 0))) (N' := 768) hx hb (ht _ m_125) rfl hK hP hD hS hA (fun _ => rfl) (by decide) (by decide) (by decide) (Nat.le_of_ble_eq_true rfl) (Nat.le_of_ble_eq_true rfl) dX12_init_183 (fun q41 ca42 H hK hP hD hS => ?_)
  refine W.widen (k := 21) (n := 1904) (by decide) (by decide) ?_
  refine va_putF (D := (dC, dI)) (ci := 12) (v := .ref q41) (ty := (.array .int)) (C := RX12) (T := TX12) (N := 75) hx hb ht inX12 tyX12 tyX12_ok nmX12 hown hK hP hD hS 0 rfl rfl 31 (by decide) (ht _ m_1170) (fun _ h9 => h9) rfl hin rfl (by decide +kernel) rfl rfl (Nat.le_of_ble_eq_true rfl) dX12_init_185 (fun H locs hP hD hS => ?_)
  have hK : va_K (dC, dI) classes [(ca2, .int), (ca4, .int), (ca6, .int), (ca8, .int), (ca10, .int), (ca12, .int), (ca14, .int), (ca16, .int), (ca18, .int), (ca20, .int), (ca22, .int), (ca24, .int), (ca26, .int), (ca28, .int), (ca30, .int), (ca32, .int), (ca34, .int), (ca36, .int), (ca38, .int), (ca40, .int), (ca42, .int)] s := hK
  obtain ⟨ws9, hP, hD, he9⟩ : ∃ ws9 : va_W, va_P (dC, dI) classes ws9 H ∧ va_D A ws9 ∧ ws9 = [(h, .inr (12, [.int 0, .int 0, .ref q1, .int 0, .ref q3, .ref q5, .ref q7, .ref q9, .ref q11, .ref q13, .ref q15, .ref q17, .ref q19, .int 0, .ref q21, .ref q23, .ref q25, .long 0, .long 0, .int 0, .int (-1), .int (-1), .int (-1), .int 0, .ref q27, .ref q29, .ref q31, .ref q33, .ref q35, .ref q37, .ref q39, .ref q41, .null, .int 0, .int 0, .int 0, .int 0, .int 0, .int 0, .null, .null, .int 0, .null, .null, .long 0, .long 0, .long 0, .long 0, .int 0, .null, .null, .null, .null, .null, .null, .null, .null, .int 0, .null, .null, .int 0, .int 0, .int 0, .null, .null, .int 0, .int 0, .int 0, .null, .null, .null, .null, .null, .null, .null])), (q1, .inl (ca2, 10, .inl (fun _ => 0))), (q3, .inl (ca4, 60, .inl (fun _ => 0))), (q5, .inl (ca6, 60, .inl (fun _ => 0))), (q7, .inl (ca8, 60, .inl (fun _ => 0))), (q9, .inl (ca10, 60, .inl (fun _ => 0))), (q11, .inl (ca12, 60, .inl (fun _ => 0))), (q13, .inl (ca14, 60, .inl (fun _ => 0))), (q15, .inl (ca16, 60, .inl (fun _ => 0))), (q17, .inl (ca18, 60, .inl (fun _ => 0))), (q19, .inl (ca20, 60, .inl (fun _ => 0))), (q21, .inl (ca22, 30, .inl (fun _ => 0))), (q23, .inl (ca24, 30, .inl (fun _ => 0))), (q25, .inl (ca26, 30, .inl (fun _ => 0))), (q27, .inl (ca28, 8, .inl (fun _ => 0))), (q29, .inl (ca30, 8, .inl (fun _ => 0))), (q31, .inl (ca32, 96, .inl (fun _ => 0))), (q33, .inl (ca34, 96, .inl (fun _ => 0))), (q35, .inl (ca36, 96, .inl (fun _ => 0))), (q37, .inl (ca38, 96, .inl (fun _ => 0))), (q39, .inl (ca40, 96, .inl (fun _ => 0))), (q41, .inl (ca42, 768, .inl (fun _ => 0)))] := ⟨_, hP, hD, rfl⟩
  subst he9
  refine lv_aload_n hx hb dX12_init_188 rfl (lv_at hl 0 rfl) ?_
  refine lv_sipush (v := 200) hx hb dX12_init_189 (by decide) ?_
  refine va_newa (atype := .int) (ty := .int) (a0 := (200, .inl (fun _ => 0))) (N' := 200) hx hb (ht _ m_125) rfl hK hP hD hS hA (fun _ => rfl) (by decide) (by decide) (by decide) (Nat.le_of_ble_eq_true rfl) (Nat.le_of_ble_eq_true rfl) dX12_init_192 (fun q43 ca44 H hK hP hD hS => ?_)
  refine W.widen (k := 22) (n := 2104) (by decide) (by decide) ?_
  refine va_putF (D := (dC, dI)) (ci := 12) (v := .ref q43) (ty := (.array .int)) (C := RX12) (T := TX12) (N := 75) hx hb ht inX12 tyX12 tyX12_ok nmX12 hown hK hP hD hS 0 rfl rfl 32 (by decide) (ht _ m_1171) (fun _ h9 => h9) rfl hin rfl (by decide +kernel) rfl rfl (Nat.le_of_ble_eq_true rfl) dX12_init_194 (fun H locs hP hD hS => ?_)
  refine lv_aload_n hx hb dX12_init_197 rfl (lv_at hl 0 rfl) ?_
  refine lv_iconst (v := (-1)) hx hb dX12_init_198 (by decide) ?_
  refine va_put (D := (dC, dI)) (ci := 12) (v := .int (-1)) (ty := (.int)) (C := RX12) (T := TX12) (N := 75) hx hb ht inX12 tyX12 tyX12_ok nmX12 hown hK hP hD hS 0 rfl rfl 36 (by decide) (ht _ m_1175) (fun _ h9 => h9) rfl (by decide +kernel) rfl rfl (Nat.le_of_ble_eq_true rfl) dX12_init_199 (fun H locs hP hD hS => ?_)
  refine lv_aload_n hx hb dX12_init_202 rfl (lv_at hl 0 rfl) ?_
  refine lv_bipush (v := 8) hx hb dX12_init_203 (by decide) ?_
  refine va_newa (atype := .boolean) (ty := .boolean) (a0 := (8, .inl (fun _ => 0))) (N' := 8) hx hb (ht _ m_221) rfl hK hP hD hS hA (fun _ => rfl) (by decide) (by decide) (by decide) (Nat.le_of_ble_eq_true rfl) (Nat.le_of_ble_eq_true rfl) dX12_init_205 (fun q45 ca46 H hK hP hD hS => ?_)
  refine W.widen (k := 23) (n := 2112) (by decide) (by decide) ?_
  refine va_putF (D := (dC, dI)) (ci := 12) (v := .ref q45) (ty := (.array .boolean)) (C := RX12) (T := TX12) (N := 75) hx hb ht inX12 tyX12 tyX12_ok nmX12 hown hK hP hD hS 0 rfl rfl 39 (by decide) (ht _ m_1178) (fun _ h9 => h9) rfl hin rfl (by decide +kernel) rfl rfl (Nat.le_of_ble_eq_true rfl) dX12_init_207 (fun H locs hP hD hS => ?_)
  refine lv_aload_n hx hb dX12_init_210 rfl (lv_at hl 0 rfl) ?_
  refine lv_bipush (v := 8) hx hb dX12_init_211 (by decide) ?_
  refine va_newa (atype := .int) (ty := .int) (a0 := (8, .inl (fun _ => 0))) (N' := 8) hx hb (ht _ m_125) rfl hK hP hD hS hA (fun _ => rfl) (by decide) (by decide) (by decide) (Nat.le_of_ble_eq_true rfl) (Nat.le_of_ble_eq_true rfl) dX12_init_213 (fun q47 ca48 H hK hP hD hS => ?_)
  refine W.widen (k := 24) (n := 2120) (by decide) (by decide) ?_
  refine va_putF (D := (dC, dI)) (ci := 12) (v := .ref q47) (ty := (.array .int)) (C := RX12) (T := TX12) (N := 75) hx hb ht inX12 tyX12 tyX12_ok nmX12 hown hK hP hD hS 0 rfl rfl 40 (by decide) (ht _ m_1179) (fun _ h9 => h9) rfl hin rfl (by decide +kernel) rfl rfl (Nat.le_of_ble_eq_true rfl) dX12_init_215 (fun H locs hP hD hS => ?_)
  have hK : va_K (dC, dI) classes [(ca2, .int), (ca4, .int), (ca6, .int), (ca8, .int), (ca10, .int), (ca12, .int), (ca14, .int), (ca16, .int), (ca18, .int), (ca20, .int), (ca22, .int), (ca24, .int), (ca26, .int), (ca28, .int), (ca30, .int), (ca32, .int), (ca34, .int), (ca36, .int), (ca38, .int), (ca40, .int), (ca42, .int), (ca44, .int), (ca46, .boolean), (ca48, .int)] s := hK
  obtain ⟨ws9, hP, hD, he9⟩ : ∃ ws9 : va_W, va_P (dC, dI) classes ws9 H ∧ va_D A ws9 ∧ ws9 = [(h, .inr (12, [.int 0, .int 0, .ref q1, .int 0, .ref q3, .ref q5, .ref q7, .ref q9, .ref q11, .ref q13, .ref q15, .ref q17, .ref q19, .int 0, .ref q21, .ref q23, .ref q25, .long 0, .long 0, .int 0, .int (-1), .int (-1), .int (-1), .int 0, .ref q27, .ref q29, .ref q31, .ref q33, .ref q35, .ref q37, .ref q39, .ref q41, .ref q43, .int 0, .int 0, .int 0, .int (-1), .int 0, .int 0, .ref q45, .ref q47, .int 0, .null, .null, .long 0, .long 0, .long 0, .long 0, .int 0, .null, .null, .null, .null, .null, .null, .null, .null, .int 0, .null, .null, .int 0, .int 0, .int 0, .null, .null, .int 0, .int 0, .int 0, .null, .null, .null, .null, .null, .null, .null])), (q1, .inl (ca2, 10, .inl (fun _ => 0))), (q3, .inl (ca4, 60, .inl (fun _ => 0))), (q5, .inl (ca6, 60, .inl (fun _ => 0))), (q7, .inl (ca8, 60, .inl (fun _ => 0))), (q9, .inl (ca10, 60, .inl (fun _ => 0))), (q11, .inl (ca12, 60, .inl (fun _ => 0))), (q13, .inl (ca14, 60, .inl (fun _ => 0))), (q15, .inl (ca16, 60, .inl (fun _ => 0))), (q17, .inl (ca18, 60, .inl (fun _ => 0))), (q19, .inl (ca20, 60, .inl (fun _ => 0))), (q21, .inl (ca22, 30, .inl (fun _ => 0))), (q23, .inl (ca24, 30, .inl (fun _ => 0))), (q25, .inl (ca26, 30, .inl (fun _ => 0))), (q27, .inl (ca28, 8, .inl (fun _ => 0))), (q29, .inl (ca30, 8, .inl (fun _ => 0))), (q31, .inl (ca32, 96, .inl (fun _ => 0))), (q33, .inl (ca34, 96, .inl (fun _ => 0))), (q35, .inl (ca36, 96, .inl (fun _ => 0))), (q37, .inl (ca38, 96, .inl (fun _ => 0))), (q39, .inl (ca40, 96, .inl (fun _ => 0))), (q41, .inl (ca42, 768, .inl (fun _ => 0))), (q43, .inl (ca44, 200, .inl (fun _ => 0))), (q45, .inl (ca46, 8, .inl (fun _ => 0))), (q47, .inl (ca48, 8, .inl (fun _ => 0)))] := ⟨_, hP, hD, rfl⟩
  subst he9
  refine lv_aload_n hx hb dX12_init_218 rfl (lv_at hl 0 rfl) ?_
  refine lv_iconst (v := 3) hx hb dX12_init_219 (by decide) ?_
  refine va_newa (atype := .long) (ty := .long) (a0 := (3, .inr (.inl (fun _ => 0)))) (N' := 3) hx hb (ht _ m_278) rfl hK hP hD hS hA (fun _ => rfl) (by decide) (by decide) (by decide) (Nat.le_of_ble_eq_true rfl) (Nat.le_of_ble_eq_true rfl) dX12_init_220 (fun q49 ca50 H hK hP hD hS => ?_)
  refine W.widen (k := 25) (n := 2123) (by decide) (by decide) ?_
  refine va_putF (D := (dC, dI)) (ci := 12) (v := .ref q49) (ty := (.array .long)) (C := RX12) (T := TX12) (N := 75) hx hb ht inX12 tyX12 tyX12_ok nmX12 hown hK hP hD hS 0 rfl rfl 42 (by decide) (ht _ m_1181) (fun _ h9 => h9) rfl hin rfl (by decide +kernel) rfl rfl (Nat.le_of_ble_eq_true rfl) dX12_init_222 (fun H locs hP hD hS => ?_)
  refine lv_aload_n hx hb dX12_init_225 rfl (lv_at hl 0 rfl) ?_
  refine lv_iconst (v := 3) hx hb dX12_init_226 (by decide) ?_
  refine va_newa (atype := .long) (ty := .long) (a0 := (3, .inr (.inl (fun _ => 0)))) (N' := 3) hx hb (ht _ m_278) rfl hK hP hD hS hA (fun _ => rfl) (by decide) (by decide) (by decide) (Nat.le_of_ble_eq_true rfl) (Nat.le_of_ble_eq_true rfl) dX12_init_227 (fun q51 ca52 H hK hP hD hS => ?_)
  refine W.widen (k := 26) (n := 2126) (by decide) (by decide) ?_
  refine va_putF (D := (dC, dI)) (ci := 12) (v := .ref q51) (ty := (.array .long)) (C := RX12) (T := TX12) (N := 75) hx hb ht inX12 tyX12 tyX12_ok nmX12 hown hK hP hD hS 0 rfl rfl 43 (by decide) (ht _ m_1182) (fun _ h9 => h9) rfl hin rfl (by decide +kernel) rfl rfl (Nat.le_of_ble_eq_true rfl) dX12_init_229 (fun H locs hP hD hS => ?_)
  refine lv_aload_n hx hb dX12_init_232 rfl (lv_at hl 0 rfl) ?_
  refine lv_bipush (v := 80) hx hb dX12_init_233 (by decide) ?_
  refine va_newa (atype := .int) (ty := .int) (a0 := (80, .inl (fun _ => 0))) (N' := 80) hx hb (ht _ m_125) rfl hK hP hD hS hA (fun _ => rfl) (by decide) (by decide) (by decide) (Nat.le_of_ble_eq_true rfl) (Nat.le_of_ble_eq_true rfl) dX12_init_235 (fun q53 ca54 H hK hP hD hS => ?_)
  refine W.widen (k := 27) (n := 2206) (by decide) (by decide) ?_
  refine va_putF (D := (dC, dI)) (ci := 12) (v := .ref q53) (ty := (.array .int)) (C := RX12) (T := TX12) (N := 75) hx hb ht inX12 tyX12 tyX12_ok nmX12 hown hK hP hD hS 0 rfl rfl 49 (by decide) (ht _ m_1188) (fun _ h9 => h9) rfl hin rfl (by decide +kernel) rfl rfl (Nat.le_of_ble_eq_true rfl) dX12_init_237 (fun H locs hP hD hS => ?_)
  refine lv_aload_n hx hb dX12_init_240 rfl (lv_at hl 0 rfl) ?_
  refine lv_bipush (v := 12) hx hb dX12_init_241 (by decide) ?_
  refine va_newa (atype := .int) (ty := .int) (a0 := (12, .inl (fun _ => 0))) (N' := 12) hx hb (ht _ m_125) rfl hK hP hD hS hA (fun _ => rfl) (by decide) (by decide) (by decide) (Nat.le_of_ble_eq_true rfl) (Nat.le_of_ble_eq_true rfl) dX12_init_243 (fun q55 ca56 H hK hP hD hS => ?_)
  refine W.widen (k := 28) (n := 2218) (by decide) (by decide) ?_
  refine va_putF (D := (dC, dI)) (ci := 12) (v := .ref q55) (ty := (.array .int)) (C := RX12) (T := TX12) (N := 75) hx hb ht inX12 tyX12 tyX12_ok nmX12 hown hK hP hD hS 0 rfl rfl 50 (by decide) (ht _ m_1189) (fun _ h9 => h9) rfl hin rfl (by decide +kernel) rfl rfl (Nat.le_of_ble_eq_true rfl) dX12_init_245 (fun H locs hP hD hS => ?_)
  have hK : va_K (dC, dI) classes [(ca2, .int), (ca4, .int), (ca6, .int), (ca8, .int), (ca10, .int), (ca12, .int), (ca14, .int), (ca16, .int), (ca18, .int), (ca20, .int), (ca22, .int), (ca24, .int), (ca26, .int), (ca28, .int), (ca30, .int), (ca32, .int), (ca34, .int), (ca36, .int), (ca38, .int), (ca40, .int), (ca42, .int), (ca44, .int), (ca46, .boolean), (ca48, .int), (ca50, .long), (ca52, .long), (ca54, .int), (ca56, .int)] s := hK
  obtain ⟨ws9, hP, hD, he9⟩ : ∃ ws9 : va_W, va_P (dC, dI) classes ws9 H ∧ va_D A ws9 ∧ ws9 = [(h, .inr (12, [.int 0, .int 0, .ref q1, .int 0, .ref q3, .ref q5, .ref q7, .ref q9, .ref q11, .ref q13, .ref q15, .ref q17, .ref q19, .int 0, .ref q21, .ref q23, .ref q25, .long 0, .long 0, .int 0, .int (-1), .int (-1), .int (-1), .int 0, .ref q27, .ref q29, .ref q31, .ref q33, .ref q35, .ref q37, .ref q39, .ref q41, .ref q43, .int 0, .int 0, .int 0, .int (-1), .int 0, .int 0, .ref q45, .ref q47, .int 0, .ref q49, .ref q51, .long 0, .long 0, .long 0, .long 0, .int 0, .ref q53, .ref q55, .null, .null, .null, .null, .null, .null, .int 0, .null, .null, .int 0, .int 0, .int 0, .null, .null, .int 0, .int 0, .int 0, .null, .null, .null, .null, .null, .null, .null])), (q1, .inl (ca2, 10, .inl (fun _ => 0))), (q3, .inl (ca4, 60, .inl (fun _ => 0))), (q5, .inl (ca6, 60, .inl (fun _ => 0))), (q7, .inl (ca8, 60, .inl (fun _ => 0))), (q9, .inl (ca10, 60, .inl (fun _ => 0))), (q11, .inl (ca12, 60, .inl (fun _ => 0))), (q13, .inl (ca14, 60, .inl (fun _ => 0))), (q15, .inl (ca16, 60, .inl (fun _ => 0))), (q17, .inl (ca18, 60, .inl (fun _ => 0))), (q19, .inl (ca20, 60, .inl (fun _ => 0))), (q21, .inl (ca22, 30, .inl (fun _ => 0))), (q23, .inl (ca24, 30, .inl (fun _ => 0))), (q25, .inl (ca26, 30, .inl (fun _ => 0))), (q27, .inl (ca28, 8, .inl (fun _ => 0))), (q29, .inl (ca30, 8, .inl (fun _ => 0))), (q31, .inl (ca32, 96, .inl (fun _ => 0))), (q33, .inl (ca34, 96, .inl (fun _ => 0))), (q35, .inl (ca36, 96, .inl (fun _ => 0))), (q37, .inl (ca38, 96, .inl (fun _ => 0))), (q39, .inl (ca40, 96, .inl (fun _ => 0))), (q41, .inl (ca42, 768, .inl (fun _ => 0))), (q43, .inl (ca44, 200, .inl (fun _ => 0))), (q45, .inl (ca46, 8, .inl (fun _ => 0))), (q47, .inl (ca48, 8, .inl (fun _ => 0))), (q49, .inl (ca50, 3, .inr (.inl (fun _ => 0)))), (q51, .inl (ca52, 3, .inr (.inl (fun _ => 0)))), (q53, .inl (ca54, 80, .inl (fun _ => 0))), (q55, .inl (ca56, 12, .inl (fun _ => 0)))] := ⟨_, hP, hD, rfl⟩
  subst he9
  refine lv_aload_n hx hb dX12_init_248 rfl (lv_at hl 0 rfl) ?_
  refine lv_bipush (v := 10) hx hb dX12_init_249 (by decide) ?_
  refine va_newa (atype := .int) (ty := .int) (a0 := (10, .inl (fun _ => 0))) (N' := 10) hx hb (ht _ m_125) rfl hK hP hD hS hA (fun _ => rfl) (by decide) (by decide) (by decide) (Nat.le_of_ble_eq_true rfl) (Nat.le_of_ble_eq_true rfl) dX12_init_251 (fun q57 ca58 H hK hP hD hS => ?_)
  refine W.widen (k := 29) (n := 2228) (by decide) (by decide) ?_
  refine va_putF (D := (dC, dI)) (ci := 12) (v := .ref q57) (ty := (.array .int)) (C := RX12) (T := TX12) (N := 75) hx hb ht inX12 tyX12 tyX12_ok nmX12 hown hK hP hD hS 0 rfl rfl 51 (by decide) (ht _ m_1190) (fun _ h9 => h9) rfl hin rfl (by decide +kernel) rfl rfl (Nat.le_of_ble_eq_true rfl) dX12_init_253 (fun H locs hP hD hS => ?_)
  refine lv_aload_n hx hb dX12_init_256 rfl (lv_at hl 0 rfl) ?_
  refine lv_bipush (v := 120) hx hb dX12_init_257 (by decide) ?_
  refine va_newa (atype := .int) (ty := .int) (a0 := (120, .inl (fun _ => 0))) (N' := 120) hx hb (ht _ m_125) rfl hK hP hD hS hA (fun _ => rfl) (by decide) (by decide) (by decide) (Nat.le_of_ble_eq_true rfl) (Nat.le_of_ble_eq_true rfl) dX12_init_259 (fun q59 ca60 H hK hP hD hS => ?_)
  refine W.widen (k := 30) (n := 2348) (by decide) (by decide) ?_
  refine va_putF (D := (dC, dI)) (ci := 12) (v := .ref q59) (ty := (.array .int)) (C := RX12) (T := TX12) (N := 75) hx hb ht inX12 tyX12 tyX12_ok nmX12 hown hK hP hD hS 0 rfl rfl 52 (by decide) (ht _ m_1191) (fun _ h9 => h9) rfl hin rfl (by decide +kernel) rfl rfl (Nat.le_of_ble_eq_true rfl) dX12_init_261 (fun H locs hP hD hS => ?_)
  refine lv_aload_n hx hb dX12_init_264 rfl (lv_at hl 0 rfl) ?_
  refine lv_bipush (v := 10) hx hb dX12_init_265 (by decide) ?_
  refine va_newa (atype := .int) (ty := .int) (a0 := (10, .inl (fun _ => 0))) (N' := 10) hx hb (ht _ m_125) rfl hK hP hD hS hA (fun _ => rfl) (by decide) (by decide) (by decide) (Nat.le_of_ble_eq_true rfl) (Nat.le_of_ble_eq_true rfl) dX12_init_267 (fun q61 ca62 H hK hP hD hS => ?_)
  refine W.widen (k := 31) (n := 2358) (by decide) (by decide) ?_
  refine va_putF (D := (dC, dI)) (ci := 12) (v := .ref q61) (ty := (.array .int)) (C := RX12) (T := TX12) (N := 75) hx hb ht inX12 tyX12 tyX12_ok nmX12 hown hK hP hD hS 0 rfl rfl 53 (by decide) (ht _ m_1192) (fun _ h9 => h9) rfl hin rfl (by decide +kernel) rfl rfl (Nat.le_of_ble_eq_true rfl) dX12_init_269 (fun H locs hP hD hS => ?_)
  refine lv_aload_n hx hb dX12_init_272 rfl (lv_at hl 0 rfl) ?_
  refine lv_bipush (v := 80) hx hb dX12_init_273 (by decide) ?_
  refine va_newa (atype := .int) (ty := .int) (a0 := (80, .inl (fun _ => 0))) (N' := 80) hx hb (ht _ m_125) rfl hK hP hD hS hA (fun _ => rfl) (by decide) (by decide) (by decide) (Nat.le_of_ble_eq_true rfl) (Nat.le_of_ble_eq_true rfl) dX12_init_275 (fun q63 ca64 H hK hP hD hS => ?_)
  refine W.widen (k := 32) (n := 2438) (by decide) (by decide) ?_
  refine va_putF (D := (dC, dI)) (ci := 12) (v := .ref q63) (ty := (.array .int)) (C := RX12) (T := TX12) (N := 75) hx hb ht inX12 tyX12 tyX12_ok nmX12 hown hK hP hD hS 0 rfl rfl 54 (by decide) (ht _ m_1193) (fun _ h9 => h9) rfl hin rfl (by decide +kernel) rfl rfl (Nat.le_of_ble_eq_true rfl) dX12_init_277 (fun H locs hP hD hS => ?_)
  have hK : va_K (dC, dI) classes [(ca2, .int), (ca4, .int), (ca6, .int), (ca8, .int), (ca10, .int), (ca12, .int), (ca14, .int), (ca16, .int), (ca18, .int), (ca20, .int), (ca22, .int), (ca24, .int), (ca26, .int), (ca28, .int), (ca30, .int), (ca32, .int), (ca34, .int), (ca36, .int), (ca38, .int), (ca40, .int), (ca42, .int), (ca44, .int), (ca46, .boolean), (ca48, .int), (ca50, .long), (ca52, .long), (ca54, .int), (ca56, .int), (ca58, .int), (ca60, .int), (ca62, .int), (ca64, .int)] s := hK
  obtain ⟨ws9, hP, hD, he9⟩ : ∃ ws9 : va_W, va_P (dC, dI) classes ws9 H ∧ va_D A ws9 ∧ ws9 = [(h, .inr (12, [.int 0, .int 0, .ref q1, .int 0, .ref q3, .ref q5, .ref q7, .ref q9, .ref q11, .ref q13, .ref q15, .ref q17, .ref q19, .int 0, .ref q21, .ref q23, .ref q25, .long 0, .long 0, .int 0, .int (-1), .int (-1), .int (-1), .int 0, .ref q27, .ref q29, .ref q31, .ref q33, .ref q35, .ref q37, .ref q39, .ref q41, .ref q43, .int 0, .int 0, .int 0, .int (-1), .int 0, .int 0, .ref q45, .ref q47, .int 0, .ref q49, .ref q51, .long 0, .long 0, .long 0, .long 0, .int 0, .ref q53, .ref q55, .ref q57, .ref q59, .ref q61, .ref q63, .null, .null, .int 0, .null, .null, .int 0, .int 0, .int 0, .null, .null, .int 0, .int 0, .int 0, .null, .null, .null, .null, .null, .null, .null])), (q1, .inl (ca2, 10, .inl (fun _ => 0))), (q3, .inl (ca4, 60, .inl (fun _ => 0))), (q5, .inl (ca6, 60, .inl (fun _ => 0))), (q7, .inl (ca8, 60, .inl (fun _ => 0))), (q9, .inl (ca10, 60, .inl (fun _ => 0))), (q11, .inl (ca12, 60, .inl (fun _ => 0))), (q13, .inl (ca14, 60, .inl (fun _ => 0))), (q15, .inl (ca16, 60, .inl (fun _ => 0))), (q17, .inl (ca18, 60, .inl (fun _ => 0))), (q19, .inl (ca20, 60, .inl (fun _ => 0))), (q21, .inl (ca22, 30, .inl (fun _ => 0))), (q23, .inl (ca24, 30, .inl (fun _ => 0))), (q25, .inl (ca26, 30, .inl (fun _ => 0))), (q27, .inl (ca28, 8, .inl (fun _ => 0))), (q29, .inl (ca30, 8, .inl (fun _ => 0))), (q31, .inl (ca32, 96, .inl (fun _ => 0))), (q33, .inl (ca34, 96, .inl (fun _ => 0))), (q35, .inl (ca36, 96, .inl (fun _ => 0))), (q37, .inl (ca38, 96, .inl (fun _ => 0))), (q39, .inl (ca40, 96, .inl (fun _ => 0))), (q41, .inl (ca42, 768, .inl (fun _ => 0))), (q43, .inl (ca44, 200, .inl (fun _ => 0))), (q45, .inl (ca46, 8, .inl (fun _ => 0))), (q47, .inl (ca48, 8, .inl (fun _ => 0))), (q49, .inl (ca50, 3, .inr (.inl (fun _ => 0)))), (q51, .inl (ca52, 3, .inr (.inl (fun _ => 0)))), (q53, .inl (ca54, 80, .inl (fun _ => 0))), (q55, .inl (ca56, 12, .inl (fun _ => 0))), (q57, .inl (ca58, 10, .inl (fun _ => 0))), (q59, .inl (ca60, 120, .inl (fun _ => 0))), (q61, .inl (ca62, 10, .inl (fun _ => 0))), (q63, .inl (ca64, 80, .inl (fun _ => 0)))] := ⟨_, hP, hD, rfl⟩
  subst he9
  refine lv_aload_n hx hb dX12_init_280 rfl (lv_at hl 0 rfl) ?_
  refine lv_bipush (v := 10) hx hb dX12_init_281 (by decide) ?_
  refine va_newa (atype := .int) (ty := .int) (a0 := (10, .inl (fun _ => 0))) (N' := 10) hx hb (ht _ m_125) rfl hK hP hD hS hA (fun _ => rfl) (by decide) (by decide) (by decide) (Nat.le_of_ble_eq_true rfl) (Nat.le_of_ble_eq_true rfl) dX12_init_283 (fun q65 ca66 H hK hP hD hS => ?_)
  refine W.widen (k := 33) (n := 2448) (by decide) (by decide) ?_
  refine va_putF (D := (dC, dI)) (ci := 12) (v := .ref q65) (ty := (.array .int)) (C := RX12) (T := TX12) (N := 75) hx hb ht inX12 tyX12 tyX12_ok nmX12 hown hK hP hD hS 0 rfl rfl 55 (by decide) (ht _ m_1194) (fun _ h9 => h9) rfl hin rfl (by decide +kernel) rfl rfl (Nat.le_of_ble_eq_true rfl) dX12_init_285 (fun H locs hP hD hS => ?_)
  refine lv_aload_n hx hb dX12_init_288 rfl (lv_at hl 0 rfl) ?_
  refine lv_bipush (v := 10) hx hb dX12_init_289 (by decide) ?_
  refine va_newa (atype := .int) (ty := .int) (a0 := (10, .inl (fun _ => 0))) (N' := 10) hx hb (ht _ m_125) rfl hK hP hD hS hA (fun _ => rfl) (by decide) (by decide) (by decide) (Nat.le_of_ble_eq_true rfl) (Nat.le_of_ble_eq_true rfl) dX12_init_291 (fun q67 ca68 H hK hP hD hS => ?_)
  refine W.widen (k := 34) (n := 2458) (by decide) (by decide) ?_
  refine va_putF (D := (dC, dI)) (ci := 12) (v := .ref q67) (ty := (.array .int)) (C := RX12) (T := TX12) (N := 75) hx hb ht inX12 tyX12 tyX12_ok nmX12 hown hK hP hD hS 0 rfl rfl 56 (by decide) (ht _ m_1195) (fun _ h9 => h9) rfl hin rfl (by decide +kernel) rfl rfl (Nat.le_of_ble_eq_true rfl) dX12_init_293 (fun H locs hP hD hS => ?_)
  refine lv_aload_n hx hb dX12_init_296 rfl (lv_at hl 0 rfl) ?_
  refine lv_bipush (v := 8) hx hb dX12_init_297 (by decide) ?_
  refine va_newa (atype := .int) (ty := .int) (a0 := (8, .inl (fun _ => 0))) (N' := 8) hx hb (ht _ m_125) rfl hK hP hD hS hA (fun _ => rfl) (by decide) (by decide) (by decide) (Nat.le_of_ble_eq_true rfl) (Nat.le_of_ble_eq_true rfl) dX12_init_299 (fun q69 ca70 H hK hP hD hS => ?_)
  refine W.widen (k := 35) (n := 2466) (by decide) (by decide) ?_
  refine va_putF (D := (dC, dI)) (ci := 12) (v := .ref q69) (ty := (.array .int)) (C := RX12) (T := TX12) (N := 75) hx hb ht inX12 tyX12 tyX12_ok nmX12 hown hK hP hD hS 0 rfl rfl 58 (by decide) (ht _ m_1197) (fun _ h9 => h9) rfl hin rfl (by decide +kernel) rfl rfl (Nat.le_of_ble_eq_true rfl) dX12_init_301 (fun H locs hP hD hS => ?_)
  refine lv_aload_n hx hb dX12_init_304 rfl (lv_at hl 0 rfl) ?_
  refine lv_iconst (v := 3) hx hb dX12_init_305 (by decide) ?_
  refine va_newa (atype := .int) (ty := .int) (a0 := (3, .inl (fun _ => 0))) (N' := 3) hx hb (ht _ m_125) rfl hK hP hD hS hA (fun _ => rfl) (by decide) (by decide) (by decide) (Nat.le_of_ble_eq_true rfl) (Nat.le_of_ble_eq_true rfl) dX12_init_306 (fun q71 ca72 H hK hP hD hS => ?_)
  refine W.widen (k := 36) (n := 2469) (by decide) (by decide) ?_
  refine va_putF (D := (dC, dI)) (ci := 12) (v := .ref q71) (ty := (.array .int)) (C := RX12) (T := TX12) (N := 75) hx hb ht inX12 tyX12 tyX12_ok nmX12 hown hK hP hD hS 0 rfl rfl 59 (by decide) (ht _ m_1198) (fun _ h9 => h9) rfl hin rfl (by decide +kernel) rfl rfl (Nat.le_of_ble_eq_true rfl) dX12_init_308 (fun H locs hP hD hS => ?_)
  have hK : va_K (dC, dI) classes [(ca2, .int), (ca4, .int), (ca6, .int), (ca8, .int), (ca10, .int), (ca12, .int), (ca14, .int), (ca16, .int), (ca18, .int), (ca20, .int), (ca22, .int), (ca24, .int), (ca26, .int), (ca28, .int), (ca30, .int), (ca32, .int), (ca34, .int), (ca36, .int), (ca38, .int), (ca40, .int), (ca42, .int), (ca44, .int), (ca46, .boolean), (ca48, .int), (ca50, .long), (ca52, .long), (ca54, .int), (ca56, .int), (ca58, .int), (ca60, .int), (ca62, .int), (ca64, .int), (ca66, .int), (ca68, .int), (ca70, .int), (ca72, .int)] s := hK
  obtain ⟨ws9, hP, hD, he9⟩ : ∃ ws9 : va_W, va_P (dC, dI) classes ws9 H ∧ va_D A ws9 ∧ ws9 = [(h, .inr (12, [.int 0, .int 0, .ref q1, .int 0, .ref q3, .ref q5, .ref q7, .ref q9, .ref q11, .ref q13, .ref q15, .ref q17, .ref q19, .int 0, .ref q21, .ref q23, .ref q25, .long 0, .long 0, .int 0, .int (-1), .int (-1), .int (-1), .int 0, .ref q27, .ref q29, .ref q31, .ref q33, .ref q35, .ref q37, .ref q39, .ref q41, .ref q43, .int 0, .int 0, .int 0, .int (-1), .int 0, .int 0, .ref q45, .ref q47, .int 0, .ref q49, .ref q51, .long 0, .long 0, .long 0, .long 0, .int 0, .ref q53, .ref q55, .ref q57, .ref q59, .ref q61, .ref q63, .ref q65, .ref q67, .int 0, .ref q69, .ref q71, .int 0, .int 0, .int 0, .null, .null, .int 0, .int 0, .int 0, .null, .null, .null, .null, .null, .null, .null])), (q1, .inl (ca2, 10, .inl (fun _ => 0))), (q3, .inl (ca4, 60, .inl (fun _ => 0))), (q5, .inl (ca6, 60, .inl (fun _ => 0))), (q7, .inl (ca8, 60, .inl (fun _ => 0))), (q9, .inl (ca10, 60, .inl (fun _ => 0))), (q11, .inl (ca12, 60, .inl (fun _ => 0))), (q13, .inl (ca14, 60, .inl (fun _ => 0))), (q15, .inl (ca16, 60, .inl (fun _ => 0))), (q17, .inl (ca18, 60, .inl (fun _ => 0))), (q19, .inl (ca20, 60, .inl (fun _ => 0))), (q21, .inl (ca22, 30, .inl (fun _ => 0))), (q23, .inl (ca24, 30, .inl (fun _ => 0))), (q25, .inl (ca26, 30, .inl (fun _ => 0))), (q27, .inl (ca28, 8, .inl (fun _ => 0))), (q29, .inl (ca30, 8, .inl (fun _ => 0))), (q31, .inl (ca32, 96, .inl (fun _ => 0))), (q33, .inl (ca34, 96, .inl (fun _ => 0))), (q35, .inl (ca36, 96, .inl (fun _ => 0))), (q37, .inl (ca38, 96, .inl (fun _ => 0))), (q39, .inl (ca40, 96, .inl (fun _ => 0))), (q41, .inl (ca42, 768, .inl (fun _ => 0))), (q43, .inl (ca44, 200, .inl (fun _ => 0))), (q45, .inl (ca46, 8, .inl (fun _ => 0))), (q47, .inl (ca48, 8, .inl (fun _ => 0))), (q49, .inl (ca50, 3, .inr (.inl (fun _ => 0)))), (q51, .inl (ca52, 3, .inr (.inl (fun _ => 0)))), (q53, .inl (ca54, 80, .inl (fun _ => 0))), (q55, .inl (ca56, 12, .inl (fun _ => 0))), (q57, .inl (ca58, 10, .inl (fun _ => 0))), (q59, .inl (ca60, 120, .inl (fun _ => 0))), (q61, .inl (ca62, 10, .inl (fun _ => 0))), (q63, .inl (ca64, 80, .inl (fun _ => 0))), (q65, .inl (ca66, 10, .inl (fun _ => 0))), (q67, .inl (ca68, 10, .inl (fun _ => 0))), (q69, .inl (ca70, 8, .inl (fun _ => 0))), (q71, .inl (ca72, 3, .inl (fun _ => 0)))] := ⟨_, hP, hD, rfl⟩
  subst he9
  refine lv_aload_n hx hb dX12_init_311 rfl (lv_at hl 0 rfl) ?_
  refine lv_bipush (v := 8) hx hb dX12_init_312 (by decide) ?_
  refine va_newa (atype := .int) (ty := .int) (a0 := (8, .inl (fun _ => 0))) (N' := 8) hx hb (ht _ m_125) rfl hK hP hD hS hA (fun _ => rfl) (by decide) (by decide) (by decide) (Nat.le_of_ble_eq_true rfl) (Nat.le_of_ble_eq_true rfl) dX12_init_314 (fun q73 ca74 H hK hP hD hS => ?_)
  refine W.widen (k := 37) (n := 2477) (by decide) (by decide) ?_
  refine va_putF (D := (dC, dI)) (ci := 12) (v := .ref q73) (ty := (.array .int)) (C := RX12) (T := TX12) (N := 75) hx hb ht inX12 tyX12 tyX12_ok nmX12 hown hK hP hD hS 0 rfl rfl 63 (by decide) (ht _ m_1202) (fun _ h9 => h9) rfl hin rfl (by decide +kernel) rfl rfl (Nat.le_of_ble_eq_true rfl) dX12_init_316 (fun H locs hP hD hS => ?_)
  refine lv_aload_n hx hb dX12_init_319 rfl (lv_at hl 0 rfl) ?_
  refine lv_bipush (v := 8) hx hb dX12_init_320 (by decide) ?_
  refine va_newa (atype := .int) (ty := .int) (a0 := (8, .inl (fun _ => 0))) (N' := 8) hx hb (ht _ m_125) rfl hK hP hD hS hA (fun _ => rfl) (by decide) (by decide) (by decide) (Nat.le_of_ble_eq_true rfl) (Nat.le_of_ble_eq_true rfl) dX12_init_322 (fun q75 ca76 H hK hP hD hS => ?_)
  refine W.widen (k := 38) (n := 2485) (by decide) (by decide) ?_
  refine va_putF (D := (dC, dI)) (ci := 12) (v := .ref q75) (ty := (.array .int)) (C := RX12) (T := TX12) (N := 75) hx hb ht inX12 tyX12 tyX12_ok nmX12 hown hK hP hD hS 0 rfl rfl 64 (by decide) (ht _ m_1203) (fun _ h9 => h9) rfl hin rfl (by decide +kernel) rfl rfl (Nat.le_of_ble_eq_true rfl) dX12_init_324 (fun H locs hP hD hS => ?_)
  refine lv_aload_n hx hb dX12_init_327 rfl (lv_at hl 0 rfl) ?_
  refine lv_bipush (v := 40) hx hb dX12_init_328 (by decide) ?_
  refine va_newa (atype := .int) (ty := .int) (a0 := (40, .inl (fun _ => 0))) (N' := 40) hx hb (ht _ m_125) rfl hK hP hD hS hA (fun _ => rfl) (by decide) (by decide) (by decide) (Nat.le_of_ble_eq_true rfl) (Nat.le_of_ble_eq_true rfl) dX12_init_330 (fun q77 ca78 H hK hP hD hS => ?_)
  refine W.widen (k := 39) (n := 2525) (by decide) (by decide) ?_
  refine va_putF (D := (dC, dI)) (ci := 12) (v := .ref q77) (ty := (.array .int)) (C := RX12) (T := TX12) (N := 75) hx hb ht inX12 tyX12 tyX12_ok nmX12 hown hK hP hD hS 0 rfl rfl 68 (by decide) (ht _ m_1207) (fun _ h9 => h9) rfl hin rfl (by decide +kernel) rfl rfl (Nat.le_of_ble_eq_true rfl) dX12_init_332 (fun H locs hP hD hS => ?_)
  refine lv_aload_n hx hb dX12_init_335 rfl (lv_at hl 0 rfl) ?_
  refine lv_bipush (v := 40) hx hb dX12_init_336 (by decide) ?_
  refine va_newa (atype := .int) (ty := .int) (a0 := (40, .inl (fun _ => 0))) (N' := 40) hx hb (ht _ m_125) rfl hK hP hD hS hA (fun _ => rfl) (by decide) (by decide) (by decide) (Nat.le_of_ble_eq_true rfl) (Nat.le_of_ble_eq_true rfl) dX12_init_338 (fun q79 ca80 H hK hP hD hS => ?_)
  refine W.widen (k := 40) (n := 2565) (by decide) (by decide) ?_
  refine va_putF (D := (dC, dI)) (ci := 12) (v := .ref q79) (ty := (.array .int)) (C := RX12) (T := TX12) (N := 75) hx hb ht inX12 tyX12 tyX12_ok nmX12 hown hK hP hD hS 0 rfl rfl 69 (by decide) (ht _ m_1208) (fun _ h9 => h9) rfl hin rfl (by decide +kernel) rfl rfl (Nat.le_of_ble_eq_true rfl) dX12_init_340 (fun H locs hP hD hS => ?_)
  have hK : va_K (dC, dI) classes [(ca2, .int), (ca4, .int), (ca6, .int), (ca8, .int), (ca10, .int), (ca12, .int), (ca14, .int), (ca16, .int), (ca18, .int), (ca20, .int), (ca22, .int), (ca24, .int), (ca26, .int), (ca28, .int), (ca30, .int), (ca32, .int), (ca34, .int), (ca36, .int), (ca38, .int), (ca40, .int), (ca42, .int), (ca44, .int), (ca46, .boolean), (ca48, .int), (ca50, .long), (ca52, .long), (ca54, .int), (ca56, .int), (ca58, .int), (ca60, .int), (ca62, .int), (ca64, .int), (ca66, .int), (ca68, .int), (ca70, .int), (ca72, .int), (ca74, .int), (ca76, .int), (ca78, .int), (ca80, .int)] s := hK
  obtain ⟨ws9, hP, hD, he9⟩ : ∃ ws9 : va_W, va_P (dC, dI) classes ws9 H ∧ va_D A ws9 ∧ ws9 = [(h, .inr (12, [.int 0, .int 0, .ref q1, .int 0, .ref q3, .ref q5, .ref q7, .ref q9, .ref q11, .ref q13, .ref q15, .ref q17, .ref q19, .int 0, .ref q21, .ref q23, .ref q25, .long 0, .long 0, .int 0, .int (-1), .int (-1), .int (-1), .int 0, .ref q27, .ref q29, .ref q31, .ref q33, .ref q35, .ref q37, .ref q39, .ref q41, .ref q43, .int 0, .int 0, .int 0, .int (-1), .int 0, .int 0, .ref q45, .ref q47, .int 0, .ref q49, .ref q51, .long 0, .long 0, .long 0, .long 0, .int 0, .ref q53, .ref q55, .ref q57, .ref q59, .ref q61, .ref q63, .ref q65, .ref q67, .int 0, .ref q69, .ref q71, .int 0, .int 0, .int 0, .ref q73, .ref q75, .int 0, .int 0, .int 0, .ref q77, .ref q79, .null, .null, .null, .null, .null])), (q1, .inl (ca2, 10, .inl (fun _ => 0))), (q3, .inl (ca4, 60, .inl (fun _ => 0))), (q5, .inl (ca6, 60, .inl (fun _ => 0))), (q7, .inl (ca8, 60, .inl (fun _ => 0))), (q9, .inl (ca10, 60, .inl (fun _ => 0))), (q11, .inl (ca12, 60, .inl (fun _ => 0))), (q13, .inl (ca14, 60, .inl (fun _ => 0))), (q15, .inl (ca16, 60, .inl (fun _ => 0))), (q17, .inl (ca18, 60, .inl (fun _ => 0))), (q19, .inl (ca20, 60, .inl (fun _ => 0))), (q21, .inl (ca22, 30, .inl (fun _ => 0))), (q23, .inl (ca24, 30, .inl (fun _ => 0))), (q25, .inl (ca26, 30, .inl (fun _ => 0))), (q27, .inl (ca28, 8, .inl (fun _ => 0))), (q29, .inl (ca30, 8, .inl (fun _ => 0))), (q31, .inl (ca32, 96, .inl (fun _ => 0))), (q33, .inl (ca34, 96, .inl (fun _ => 0))), (q35, .inl (ca36, 96, .inl (fun _ => 0))), (q37, .inl (ca38, 96, .inl (fun _ => 0))), (q39, .inl (ca40, 96, .inl (fun _ => 0))), (q41, .inl (ca42, 768, .inl (fun _ => 0))), (q43, .inl (ca44, 200, .inl (fun _ => 0))), (q45, .inl (ca46, 8, .inl (fun _ => 0))), (q47, .inl (ca48, 8, .inl (fun _ => 0))), (q49, .inl (ca50, 3, .inr (.inl (fun _ => 0)))), (q51, .inl (ca52, 3, .inr (.inl (fun _ => 0)))), (q53, .inl (ca54, 80, .inl (fun _ => 0))), (q55, .inl (ca56, 12, .inl (fun _ => 0))), (q57, .inl (ca58, 10, .inl (fun _ => 0))), (q59, .inl (ca60, 120, .inl (fun _ => 0))), (q61, .inl (ca62, 10, .inl (fun _ => 0))), (q63, .inl (ca64, 80, .inl (fun _ => 0))), (q65, .inl (ca66, 10, .inl (fun _ => 0))), (q67, .inl (ca68, 10, .inl (fun _ => 0))), (q69, .inl (ca70, 8, .inl (fun _ => 0))), (q71, .inl (ca72, 3, .inl (fun _ => 0))), (q73, .inl (ca74, 8, .inl (fun _ => 0))), (q75, .inl (ca76, 8, .inl (fun _ => 0))), (q77, .inl (ca78, 40, .inl (fun _ => 0))), (q79, .inl (ca80, 40, .inl (fun _ => 0)))] := ⟨_, hP, hD, rfl⟩
  subst he9
  refine lv_aload_n hx hb dX12_init_343 rfl (lv_at hl 0 rfl) ?_
  refine lv_bipush (v := 40) hx hb dX12_init_344 (by decide) ?_
  refine va_newa (atype := .long) (ty := .long) (a0 := (40, .inr (.inl (fun _ => 0)))) (N' := 40) hx hb (ht _ m_278) rfl hK hP hD hS hA (fun _ => rfl) (by decide) (by decide) (by decide) (Nat.le_of_ble_eq_true rfl) (Nat.le_of_ble_eq_true rfl) dX12_init_346 (fun q81 ca82 H hK hP hD hS => ?_)
  refine W.widen (k := 41) (n := 2605) (by decide) (by decide) ?_
  refine va_putF (D := (dC, dI)) (ci := 12) (v := .ref q81) (ty := (.array .long)) (C := RX12) (T := TX12) (N := 75) hx hb ht inX12 tyX12 tyX12_ok nmX12 hown hK hP hD hS 0 rfl rfl 70 (by decide) (ht _ m_1209) (fun _ h9 => h9) rfl hin rfl (by decide +kernel) rfl rfl (Nat.le_of_ble_eq_true rfl) dX12_init_348 (fun H locs hP hD hS => ?_)
  refine lv_aload_n hx hb dX12_init_351 rfl (lv_at hl 0 rfl) ?_
  refine lv_bipush (v := 40) hx hb dX12_init_352 (by decide) ?_
  refine va_newa (atype := .int) (ty := .int) (a0 := (40, .inl (fun _ => 0))) (N' := 40) hx hb (ht _ m_125) rfl hK hP hD hS hA (fun _ => rfl) (by decide) (by decide) (by decide) (Nat.le_of_ble_eq_true rfl) (Nat.le_of_ble_eq_true rfl) dX12_init_354 (fun q83 ca84 H hK hP hD hS => ?_)
  refine W.widen (k := 42) (n := 2645) (by decide) (by decide) ?_
  refine va_putF (D := (dC, dI)) (ci := 12) (v := .ref q83) (ty := (.array .int)) (C := RX12) (T := TX12) (N := 75) hx hb ht inX12 tyX12 tyX12_ok nmX12 hown hK hP hD hS 0 rfl rfl 71 (by decide) (ht _ m_1210) (fun _ h9 => h9) rfl hin rfl (by decide +kernel) rfl rfl (Nat.le_of_ble_eq_true rfl) dX12_init_356 (fun H locs hP hD hS => ?_)
  refine lv_aload_n hx hb dX12_init_359 rfl (lv_at hl 0 rfl) ?_
  refine lv_bipush (v := 40) hx hb dX12_init_360 (by decide) ?_
  refine va_newa (atype := .int) (ty := .int) (a0 := (40, .inl (fun _ => 0))) (N' := 40) hx hb (ht _ m_125) rfl hK hP hD hS hA (fun _ => rfl) (by decide) (by decide) (by decide) (Nat.le_of_ble_eq_true rfl) (Nat.le_of_ble_eq_true rfl) dX12_init_362 (fun q85 ca86 H hK hP hD hS => ?_)
  refine W.widen (k := 43) (n := 2685) (by decide) (by decide) ?_
  refine va_putF (D := (dC, dI)) (ci := 12) (v := .ref q85) (ty := (.array .int)) (C := RX12) (T := TX12) (N := 75) hx hb ht inX12 tyX12 tyX12_ok nmX12 hown hK hP hD hS 0 rfl rfl 72 (by decide) (ht _ m_1211) (fun _ h9 => h9) rfl hin rfl (by decide +kernel) rfl rfl (Nat.le_of_ble_eq_true rfl) dX12_init_364 (fun H locs hP hD hS => ?_)
  refine lv_aload_n hx hb dX12_init_367 rfl (lv_at hl 0 rfl) ?_
  refine lv_bipush (v := 40) hx hb dX12_init_368 (by decide) ?_
  refine va_newa (atype := .int) (ty := .int) (a0 := (40, .inl (fun _ => 0))) (N' := 40) hx hb (ht _ m_125) rfl hK hP hD hS hA (fun _ => rfl) (by decide) (by decide) (by decide) (Nat.le_of_ble_eq_true rfl) (Nat.le_of_ble_eq_true rfl) dX12_init_370 (fun q87 ca88 H hK hP hD hS => ?_)
  refine W.widen (k := 44) (n := 2725) (by decide) (by decide) ?_
  refine va_putF (D := (dC, dI)) (ci := 12) (v := .ref q87) (ty := (.array .int)) (C := RX12) (T := TX12) (N := 75) hx hb ht inX12 tyX12 tyX12_ok nmX12 hown hK hP hD hS 0 rfl rfl 73 (by decide) (ht _ m_1212) (fun _ h9 => h9) rfl hin rfl (by decide +kernel) rfl rfl (Nat.le_of_ble_eq_true rfl) dX12_init_372 (fun H locs hP hD hS => ?_)
  have hK : va_K (dC, dI) classes [(ca2, .int), (ca4, .int), (ca6, .int), (ca8, .int), (ca10, .int), (ca12, .int), (ca14, .int), (ca16, .int), (ca18, .int), (ca20, .int), (ca22, .int), (ca24, .int), (ca26, .int), (ca28, .int), (ca30, .int), (ca32, .int), (ca34, .int), (ca36, .int), (ca38, .int), (ca40, .int), (ca42, .int), (ca44, .int), (ca46, .boolean), (ca48, .int), (ca50, .long), (ca52, .long), (ca54, .int), (ca56, .int), (ca58, .int), (ca60, .int), (ca62, .int), (ca64, .int), (ca66, .int), (ca68, .int), (ca70, .int), (ca72, .int), (ca74, .int), (ca76, .int), (ca78, .int), (ca80, .int), (ca82, .long), (ca84, .int), (ca86, .int), (ca88, .int)] s := hK
  obtain ⟨ws9, hP, hD, he9⟩ : ∃ ws9 : va_W, va_P (dC, dI) classes ws9 H ∧ va_D A ws9 ∧ ws9 = [(h, .inr (12, [.int 0, .int 0, .ref q1, .int 0, .ref q3, .ref q5, .ref q7, .ref q9, .ref q11, .ref q13, .ref q15, .ref q17, .ref q19, .int 0, .ref q21, .ref q23, .ref q25, .long 0, .long 0, .int 0, .int (-1), .int (-1), .int (-1), .int 0, .ref q27, .ref q29, .ref q31, .ref q33, .ref q35, .ref q37, .ref q39, .ref q41, .ref q43, .int 0, .int 0, .int 0, .int (-1), .int 0, .int 0, .ref q45, .ref q47, .int 0, .ref q49, .ref q51, .long 0, .long 0, .long 0, .long 0, .int 0, .ref q53, .ref q55, .ref q57, .ref q59, .ref q61, .ref q63, .ref q65, .ref q67, .int 0, .ref q69, .ref q71, .int 0, .int 0, .int 0, .ref q73, .ref q75, .int 0, .int 0, .int 0, .ref q77, .ref q79, .ref q81, .ref q83, .ref q85, .ref q87, .null])), (q1, .inl (ca2, 10, .inl (fun _ => 0))), (q3, .inl (ca4, 60, .inl (fun _ => 0))), (q5, .inl (ca6, 60, .inl (fun _ => 0))), (q7, .inl (ca8, 60, .inl (fun _ => 0))), (q9, .inl (ca10, 60, .inl (fun _ => 0))), (q11, .inl (ca12, 60, .inl (fun _ => 0))), (q13, .inl (ca14, 60, .inl (fun _ => 0))), (q15, .inl (ca16, 60, .inl (fun _ => 0))), (q17, .inl (ca18, 60, .inl (fun _ => 0))), (q19, .inl (ca20, 60, .inl (fun _ => 0))), (q21, .inl (ca22, 30, .inl (fun _ => 0))), (q23, .inl (ca24, 30, .inl (fun _ => 0))), (q25, .inl (ca26, 30, .inl (fun _ => 0))), (q27, .inl (ca28, 8, .inl (fun _ => 0))), (q29, .inl (ca30, 8, .inl (fun _ => 0))), (q31, .inl (ca32, 96, .inl (fun _ => 0))), (q33, .inl (ca34, 96, .inl (fun _ => 0))), (q35, .inl (ca36, 96, .inl (fun _ => 0))), (q37, .inl (ca38, 96, .inl (fun _ => 0))), (q39, .inl (ca40, 96, .inl (fun _ => 0))), (q41, .inl (ca42, 768, .inl (fun _ => 0))), (q43, .inl (ca44, 200, .inl (fun _ => 0))), (q45, .inl (ca46, 8, .inl (fun _ => 0))), (q47, .inl (ca48, 8, .inl (fun _ => 0))), (q49, .inl (ca50, 3, .inr (.inl (fun _ => 0)))), (q51, .inl (ca52, 3, .inr (.inl (fun _ => 0)))), (q53, .inl (ca54, 80, .inl (fun _ => 0))), (q55, .inl (ca56, 12, .inl (fun _ => 0))), (q57, .inl (ca58, 10, .inl (fun _ => 0))), (q59, .inl (ca60, 120, .inl (fun _ => 0))), (q61, .inl (ca62, 10, .inl (fun _ => 0))), (q63, .inl (ca64, 80, .inl (fun _ => 0))), (q65, .inl (ca66, 10, .inl (fun _ => 0))), (q67, .inl (ca68, 10, .inl (fun _ => 0))), (q69, .inl (ca70, 8, .inl (fun _ => 0))), (q71, .inl (ca72, 3, .inl (fun _ => 0))), (q73, .inl (ca74, 8, .inl (fun _ => 0))), (q75, .inl (ca76, 8, .inl (fun _ => 0))), (q77, .inl (ca78, 40, .inl (fun _ => 0))), (q79, .inl (ca80, 40, .inl (fun _ => 0))), (q81, .inl (ca82, 40, .inr (.inl (fun _ => 0)))), (q83, .inl (ca84, 40, .inl (fun _ => 0))), (q85, .inl (ca86, 40, .inl (fun _ => 0))), (q87, .inl (ca88, 40, .inl (fun _ => 0)))] := ⟨_, hP, hD, rfl⟩
  subst he9
  refine lv_aload_n hx hb dX12_init_375 rfl (lv_at hl 0 rfl) ?_
  refine lv_bipush (v := 40) hx hb dX12_init_376 (by decide) ?_
  refine va_newa (atype := .int) (ty := .int) (a0 := (40, .inl (fun _ => 0))) (N' := 40) hx hb (ht _ m_125) rfl hK hP hD hS hA (fun _ => rfl) (by decide) (by decide) (by decide) (Nat.le_of_ble_eq_true rfl) (Nat.le_of_ble_eq_true rfl) dX12_init_378 (fun q89 ca90 H hK hP hD hS => ?_)
  refine W.widen (k := 45) (n := 2765) (by decide) (by decide) ?_
  refine va_putF (D := (dC, dI)) (ci := 12) (v := .ref q89) (ty := (.array .int)) (C := RX12) (T := TX12) (N := 75) hx hb ht inX12 tyX12 tyX12_ok nmX12 hown hK hP hD hS 0 rfl rfl 74 (by decide) (ht _ m_1213) (fun _ h9 => h9) rfl hin rfl (by decide +kernel) rfl rfl (Nat.le_of_ble_eq_true rfl) dX12_init_380 (fun H locs hP hD hS => ?_)
  have hP9 := hP.sub (ws' := [(h, .inr (12, [.int 0, .int 0, .ref q1, .int 0, .ref q3, .ref q5, .ref q7, .ref q9, .ref q11, .ref q13, .ref q15, .ref q17, .ref q19, .int 0, .ref q21, .ref q23, .ref q25, .long 0, .long 0, .int 0, .int (-1), .int (-1), .int (-1), .int 0, .ref q27, .ref q29, .ref q31, .ref q33, .ref q35, .ref q37, .ref q39, .ref q41, .ref q43, .int 0, .int 0, .int 0, .int (-1), .int 0, .int 0, .ref q45, .ref q47, .int 0, .ref q49, .ref q51, .long 0, .long 0, .long 0, .long 0, .int 0, .ref q53, .ref q55, .ref q57, .ref q59, .ref q61, .ref q63, .ref q65, .ref q67, .int 0, .ref q69, .ref q71, .int 0, .int 0, .int 0, .ref q73, .ref q75, .int 0, .int 0, .int 0, .ref q77, .ref q79, .ref q81, .ref q83, .ref q85, .ref q87, .ref q89])), (q1, .inl (ca2, 10, .inl (fun _ => 0))), (q3, .inl (ca4, 60, .inl (fun _ => 0))), (q5, .inl (ca6, 60, .inl (fun _ => 0))), (q7, .inl (ca8, 60, .inl (fun _ => 0))), (q9, .inl (ca10, 60, .inl (fun _ => 0))), (q11, .inl (ca12, 60, .inl (fun _ => 0))), (q13, .inl (ca14, 60, .inl (fun _ => 0))), (q15, .inl (ca16, 60, .inl (fun _ => 0))), (q17, .inl (ca18, 60, .inl (fun _ => 0))), (q19, .inl (ca20, 60, .inl (fun _ => 0))), (q21, .inl (ca22, 30, .inl (fun _ => 0))), (q23, .inl (ca24, 30, .inl (fun _ => 0))), (q25, .inl (ca26, 30, .inl (fun _ => 0))), (q27, .inl (ca28, 8, .inl (fun _ => 0))), (q29, .inl (ca30, 8, .inl (fun _ => 0))), (q31, .inl (ca32, 96, .inl (fun _ => 0))), (q33, .inl (ca34, 96, .inl (fun _ => 0))), (q35, .inl (ca36, 96, .inl (fun _ => 0))), (q37, .inl (ca38, 96, .inl (fun _ => 0))), (q39, .inl (ca40, 96, .inl (fun _ => 0))), (q41, .inl (ca42, 768, .inl (fun _ => 0))), (q43, .inl (ca44, 200, .inl (fun _ => 0))), (q45, .inl (ca46, 8, .inl (fun _ => 0))), (q47, .inl (ca48, 8, .inl (fun _ => 0))), (q49, .inl (ca50, 3, .inr (.inl (fun _ => 0)))), (q51, .inl (ca52, 3, .inr (.inl (fun _ => 0)))), (q53, .inl (ca54, 80, .inl (fun _ => 0))), (q55, .inl (ca56, 12, .inl (fun _ => 0))), (q57, .inl (ca58, 10, .inl (fun _ => 0))), (q59, .inl (ca60, 120, .inl (fun _ => 0))), (q61, .inl (ca62, 10, .inl (fun _ => 0))), (q63, .inl (ca64, 80, .inl (fun _ => 0))), (q65, .inl (ca66, 10, .inl (fun _ => 0))), (q67, .inl (ca68, 10, .inl (fun _ => 0))), (q69, .inl (ca70, 8, .inl (fun _ => 0))), (q71, .inl (ca72, 3, .inl (fun _ => 0))), (q73, .inl (ca74, 8, .inl (fun _ => 0))), (q75, .inl (ca76, 8, .inl (fun _ => 0))), (q77, .inl (ca78, 40, .inl (fun _ => 0))), (q79, .inl (ca80, 40, .inl (fun _ => 0))), (q81, .inl (ca82, 40, .inr (.inl (fun _ => 0)))), (q83, .inl (ca84, 40, .inl (fun _ => 0))), (q85, .inl (ca86, 40, .inl (fun _ => 0))), (q87, .inl (ca88, 40, .inl (fun _ => 0))), (q89, .inl (ca90, 40, .inl (fun _ => 0)))]) [0, 1, 2, 3, 4, 5, 6, 7, 8, 9, 10, 11, 12, 13, 14, 15, 16, 17, 18, 19, 20, 21, 22, 23, 24, 25, 26, 27, 28, 29, 30, 31, 32, 33, 34, 35, 36, 37, 38, 39, 40, 41, 42, 43, 44, 45] rfl
  have hD9 := hD.sub (ws' := [(h, .inr (12, [.int 0, .int 0, .ref q1, .int 0, .ref q3, .ref q5, .ref q7, .ref q9, .ref q11, .ref q13, .ref q15, .ref q17, .ref q19, .int 0, .ref q21, .ref q23, .ref q25, .long 0, .long 0, .int 0, .int (-1), .int (-1), .int (-1), .int 0, .ref q27, .ref q29, .ref q31, .ref q33, .ref q35, .ref q37, .ref q39, .ref q41, .ref q43, .int 0, .int 0, .int 0, .int (-1), .int 0, .int 0, .ref q45, .ref q47, .int 0, .ref q49, .ref q51, .long 0, .long 0, .long 0, .long 0, .int 0, .ref q53, .ref q55, .ref q57, .ref q59, .ref q61, .ref q63, .ref q65, .ref q67, .int 0, .ref q69, .ref q71, .int 0, .int 0, .int 0, .ref q73, .ref q75, .int 0, .int 0, .int 0, .ref q77, .ref q79, .ref q81, .ref q83, .ref q85, .ref q87, .ref q89])), (q1, .inl (ca2, 10, .inl (fun _ => 0))), (q3, .inl (ca4, 60, .inl (fun _ => 0))), (q5, .inl (ca6, 60, .inl (fun _ => 0))), (q7, .inl (ca8, 60, .inl (fun _ => 0))), (q9, .inl (ca10, 60, .inl (fun _ => 0))), (q11, .inl (ca12, 60, .inl (fun _ => 0))), (q13, .inl (ca14, 60, .inl (fun _ => 0))), (q15, .inl (ca16, 60, .inl (fun _ => 0))), (q17, .inl (ca18, 60, .inl (fun _ => 0))), (q19, .inl (ca20, 60, .inl (fun _ => 0))), (q21, .inl (ca22, 30, .inl (fun _ => 0))), (q23, .inl (ca24, 30, .inl (fun _ => 0))), (q25, .inl (ca26, 30, .inl (fun _ => 0))), (q27, .inl (ca28, 8, .inl (fun _ => 0))), (q29, .inl (ca30, 8, .inl (fun _ => 0))), (q31, .inl (ca32, 96, .inl (fun _ => 0))), (q33, .inl (ca34, 96, .inl (fun _ => 0))), (q35, .inl (ca36, 96, .inl (fun _ => 0))), (q37, .inl (ca38, 96, .inl (fun _ => 0))), (q39, .inl (ca40, 96, .inl (fun _ => 0))), (q41, .inl (ca42, 768, .inl (fun _ => 0))), (q43, .inl (ca44, 200, .inl (fun _ => 0))), (q45, .inl (ca46, 8, .inl (fun _ => 0))), (q47, .inl (ca48, 8, .inl (fun _ => 0))), (q49, .inl (ca50, 3, .inr (.inl (fun _ => 0)))), (q51, .inl (ca52, 3, .inr (.inl (fun _ => 0)))), (q53, .inl (ca54, 80, .inl (fun _ => 0))), (q55, .inl (ca56, 12, .inl (fun _ => 0))), (q57, .inl (ca58, 10, .inl (fun _ => 0))), (q59, .inl (ca60, 120, .inl (fun _ => 0))), (q61, .inl (ca62, 10, .inl (fun _ => 0))), (q63, .inl (ca64, 80, .inl (fun _ => 0))), (q65, .inl (ca66, 10, .inl (fun _ => 0))), (q67, .inl (ca68, 10, .inl (fun _ => 0))), (q69, .inl (ca70, 8, .inl (fun _ => 0))), (q71, .inl (ca72, 3, .inl (fun _ => 0))), (q73, .inl (ca74, 8, .inl (fun _ => 0))), (q75, .inl (ca76, 8, .inl (fun _ => 0))), (q77, .inl (ca78, 40, .inl (fun _ => 0))), (q79, .inl (ca80, 40, .inl (fun _ => 0))), (q81, .inl (ca82, 40, .inr (.inl (fun _ => 0)))), (q83, .inl (ca84, 40, .inl (fun _ => 0))), (q85, .inl (ca86, 40, .inl (fun _ => 0))), (q87, .inl (ca88, 40, .inl (fun _ => 0))), (q89, .inl (ca90, 40, .inl (fun _ => 0)))]) [0, 1, 2, 3, 4, 5, 6, 7, 8, 9, 10, 11, 12, 13, 14, 15, 16, 17, 18, 19, 20, 21, 22, 23, 24, 25, 26, 27, 28, 29, 30, 31, 32, 33, 34, 35, 36, 37, 38, 39, 40, 41, 42, 43, 44, 45] (by decide) rfl
  have hK9 := hK.sub (tys' := [(ca2, .int), (ca4, .int), (ca6, .int), (ca8, .int), (ca10, .int), (ca12, .int), (ca14, .int), (ca16, .int), (ca18, .int), (ca20, .int), (ca22, .int), (ca24, .int), (ca26, .int), (ca28, .int), (ca30, .int), (ca32, .int), (ca34, .int), (ca36, .int), (ca38, .int), (ca40, .int), (ca42, .int), (ca44, .int), (ca46, .boolean), (ca48, .int), (ca50, .long), (ca52, .long), (ca54, .int), (ca56, .int), (ca58, .int), (ca60, .int), (ca62, .int), (ca64, .int), (ca66, .int), (ca68, .int), (ca70, .int), (ca72, .int), (ca74, .int), (ca76, .int), (ca78, .int), (ca80, .int), (ca82, .long), (ca84, .int), (ca86, .int), (ca88, .int), (ca90, .int)]) [0, 1, 2, 3, 4, 5, 6, 7, 8, 9, 10, 11, 12, 13, 14, 15, 16, 17, 18, 19, 20, 21, 22, 23, 24, 25, 26, 27, 28, 29, 30, 31, 32, 33, 34, 35, 36, 37, 38, 39, 40, 41, 42, 43, 44] rfl
  obtain ⟨u9, hu9⟩ : ∃ u : (Nat → Nat → Nat) × (Nat → Nat → ClassId), u = ((fun i j => (([[], [], [], [], [], [], [], [], [], [], [], [], [0, 0, q1, 0, q3, q5, q7, q9, q11, q13, q15, q17, q19, 0, q21, q23, q25, 0, 0, 0, 0, 0, 0, 0, q27, q29, q31, q33, q35, q37, q39, q41, q43, 0, 0, 0, 0, 0, 0, q45, q47, 0, q49, q51, 0, 0, 0, 0, 0, q53, q55, q57, q59, q61, q63, q65, q67, 0, q69, q71, 0, 0, 0, q73, q75, 0, 0, 0, q77, q79, q81, q83, q85, q87, q89]] : List (List _)).getD i []).getD j 0), (fun i j => (([[], [], [], [], [], [], [], [], [], [], [], [], [ca2, ca2, ca2, ca2, ca4, ca6, ca8, ca10, ca12, ca14, ca16, ca18, ca20, ca2, ca22, ca24, ca26, ca2, ca2, ca2, ca2, ca2, ca2, ca2, ca28, ca30, ca32, ca34, ca36, ca38, ca40, ca42, ca44, ca2, ca2, ca2, ca2, ca2, ca2, ca46, ca48, ca2, ca50, ca52, ca2, ca2, ca2, ca2, ca2, ca54, ca56, ca58, ca60, ca62, ca64, ca66, ca68, ca2, ca70, ca72, ca2, ca2, ca2, ca74, ca76, ca2, ca2, ca2, ca78, ca80, ca82, ca84, ca86, ca88, ca90]] : List (List _)).getD i []).getD j ca2)) := ⟨_, rfl⟩
  have hB9 : ∀ t : State, t.heap = H → s.WarmedH t.vm → (fun u t => va_P (dC, dI) classes [(h, .inr (12, [.int 0, .int 0, .ref (u.1 12 2), .int 0, .ref (u.1 12 4), .ref (u.1 12 5), .ref (u.1 12 6), .ref (u.1 12 7), .ref (u.1 12 8), .ref (u.1 12 9), .ref (u.1 12 10), .ref (u.1 12 11), .ref (u.1 12 12), .int 0, .ref (u.1 12 14), .ref (u.1 12 15), .ref (u.1 12 16), .long 0, .long 0, .int 0, .int (-1), .int (-1), .int (-1), .int 0, .ref (u.1 12 24), .ref (u.1 12 25), .ref (u.1 12 26), .ref (u.1 12 27), .ref (u.1 12 28), .ref (u.1 12 29), .ref (u.1 12 30), .ref (u.1 12 31), .ref (u.1 12 32), .int 0, .int 0, .int 0, .int (-1), .int 0, .int 0, .ref (u.1 12 39), .ref (u.1 12 40), .int 0, .ref (u.1 12 42), .ref (u.1 12 43), .long 0, .long 0, .long 0, .long 0, .int 0, .ref (u.1 12 49), .ref (u.1 12 50), .ref (u.1 12 51), .ref (u.1 12 52), .ref (u.1 12 53), .ref (u.1 12 54), .ref (u.1 12 55), .ref (u.1 12 56), .int 0, .ref (u.1 12 58), .ref (u.1 12 59), .int 0, .int 0, .int 0, .ref (u.1 12 63), .ref (u.1 12 64), .int 0, .int 0, .int 0, .ref (u.1 12 68), .ref (u.1 12 69), .ref (u.1 12 70), .ref (u.1 12 71), .ref (u.1 12 72), .ref (u.1 12 73), .ref (u.1 12 74)])), ((u.1 12 2), .inl ((u.2 12 2), 10, .inl (fun _ => 0))), ((u.1 12 4), .inl ((u.2 12 4), 60, .inl (fun _ => 0))), ((u.1 12 5), .inl ((u.2 12 5), 60, .inl (fun _ => 0))), ((u.1 12 6), .inl ((u.2 12 6), 60, .inl (fun _ => 0))), ((u.1 12 7), .inl ((u.2 12 7), 60, .inl (fun _ => 0))), ((u.1 12 8), .inl ((u.2 12 8), 60, .inl (fun _ => 0))), ((u.1 12 9), .inl ((u.2 12 9), 60, .inl (fun _ => 0))), ((u.1 12 10), .inl ((u.2 12 10), 60, .inl (fun _ => 0))), ((u.1 12 11), .inl ((u.2 12 11), 60, .inl (fun _ => 0))), ((u.1 12 12), .inl ((u.2 12 12), 60, .inl (fun _ => 0))), ((u.1 12 14), .inl ((u.2 12 14), 30, .inl (fun _ => 0))), ((u.1 12 15), .inl ((u.2 12 15), 30, .inl (fun _ => 0))), ((u.1 12 16), .inl ((u.2 12 16), 30, .inl (fun _ => 0))), ((u.1 12 24), .inl ((u.2 12 24), 8, .inl (fun _ => 0))), ((u.1 12 25), .inl ((u.2 12 25), 8, .inl (fun _ => 0))), ((u.1 12 26), .inl ((u.2 12 26), 96, .inl (fun _ => 0))), ((u.1 12 27), .inl ((u.2 12 27), 96, .inl (fun _ => 0))), ((u.1 12 28), .inl ((u.2 12 28), 96, .inl (fun _ => 0))), ((u.1 12 29), .inl ((u.2 12 29), 96, .inl (fun _ => 0))), ((u.1 12 30), .inl ((u.2 12 30), 96, .inl (fun _ => 0))), ((u.1 12 31), .inl ((u.2 12 31), 768, .inl (fun _ => 0))), ((u.1 12 32), .inl ((u.2 12 32), 200, .inl (fun _ => 0))), ((u.1 12 39), .inl ((u.2 12 39), 8, .inl (fun _ => 0))), ((u.1 12 40), .inl ((u.2 12 40), 8, .inl (fun _ => 0))), ((u.1 12 42), .inl ((u.2 12 42), 3, .inr (.inl (fun _ => 0)))), ((u.1 12 43), .inl ((u.2 12 43), 3, .inr (.inl (fun _ => 0)))), ((u.1 12 49), .inl ((u.2 12 49), 80, .inl (fun _ => 0))), ((u.1 12 50), .inl ((u.2 12 50), 12, .inl (fun _ => 0))), ((u.1 12 51), .inl ((u.2 12 51), 10, .inl (fun _ => 0))), ((u.1 12 52), .inl ((u.2 12 52), 120, .inl (fun _ => 0))), ((u.1 12 53), .inl ((u.2 12 53), 10, .inl (fun _ => 0))), ((u.1 12 54), .inl ((u.2 12 54), 80, .inl (fun _ => 0))), ((u.1 12 55), .inl ((u.2 12 55), 10, .inl (fun _ => 0))), ((u.1 12 56), .inl ((u.2 12 56), 10, .inl (fun _ => 0))), ((u.1 12 58), .inl ((u.2 12 58), 8, .inl (fun _ => 0))), ((u.1 12 59), .inl ((u.2 12 59), 3, .inl (fun _ => 0))), ((u.1 12 63), .inl ((u.2 12 63), 8, .inl (fun _ => 0))), ((u.1 12 64), .inl ((u.2 12 64), 8, .inl (fun _ => 0))), ((u.1 12 68), .inl ((u.2 12 68), 40, .inl (fun _ => 0))), ((u.1 12 69), .inl ((u.2 12 69), 40, .inl (fun _ => 0))), ((u.1 12 70), .inl ((u.2 12 70), 40, .inr (.inl (fun _ => 0)))), ((u.1 12 71), .inl ((u.2 12 71), 40, .inl (fun _ => 0))), ((u.1 12 72), .inl ((u.2 12 72), 40, .inl (fun _ => 0))), ((u.1 12 73), .inl ((u.2 12 73), 40, .inl (fun _ => 0))), ((u.1 12 74), .inl ((u.2 12 74), 40, .inl (fun _ => 0)))] t.heap ∧ va_K (dC, dI) classes [((u.2 12 2), .int), ((u.2 12 4), .int), ((u.2 12 5), .int), ((u.2 12 6), .int), ((u.2 12 7), .int), ((u.2 12 8), .int), ((u.2 12 9), .int), ((u.2 12 10), .int), ((u.2 12 11), .int), ((u.2 12 12), .int), ((u.2 12 14), .int), ((u.2 12 15), .int), ((u.2 12 16), .int), ((u.2 12 24), .int), ((u.2 12 25), .int), ((u.2 12 26), .int), ((u.2 12 27), .int), ((u.2 12 28), .int), ((u.2 12 29), .int), ((u.2 12 30), .int), ((u.2 12 31), .int), ((u.2 12 32), .int), ((u.2 12 39), .boolean), ((u.2 12 40), .int), ((u.2 12 42), .long), ((u.2 12 43), .long), ((u.2 12 49), .int), ((u.2 12 50), .int), ((u.2 12 51), .int), ((u.2 12 52), .int), ((u.2 12 53), .int), ((u.2 12 54), .int), ((u.2 12 55), .int), ((u.2 12 56), .int), ((u.2 12 58), .int), ((u.2 12 59), .int), ((u.2 12 63), .int), ((u.2 12 64), .int), ((u.2 12 68), .int), ((u.2 12 69), .int), ((u.2 12 70), .long), ((u.2 12 71), .int), ((u.2 12 72), .int), ((u.2 12 73), .int), ((u.2 12 74), .int)] t ∧ va_D A [(h, .inr (12, [.int 0, .int 0, .ref (u.1 12 2), .int 0, .ref (u.1 12 4), .ref (u.1 12 5), .ref (u.1 12 6), .ref (u.1 12 7), .ref (u.1 12 8), .ref (u.1 12 9), .ref (u.1 12 10), .ref (u.1 12 11), .ref (u.1 12 12), .int 0, .ref (u.1 12 14), .ref (u.1 12 15), .ref (u.1 12 16), .long 0, .long 0, .int 0, .int (-1), .int (-1), .int (-1), .int 0, .ref (u.1 12 24), .ref (u.1 12 25), .ref (u.1 12 26), .ref (u.1 12 27), .ref (u.1 12 28), .ref (u.1 12 29), .ref (u.1 12 30), .ref (u.1 12 31), .ref (u.1 12 32), .int 0, .int 0, .int 0, .int (-1), .int 0, .int 0, .ref (u.1 12 39), .ref (u.1 12 40), .int 0, .ref (u.1 12 42), .ref (u.1 12 43), .long 0, .long 0, .long 0, .long 0, .int 0, .ref (u.1 12 49), .ref (u.1 12 50), .ref (u.1 12 51), .ref (u.1 12 52), .ref (u.1 12 53), .ref (u.1 12 54), .ref (u.1 12 55), .ref (u.1 12 56), .int 0, .ref (u.1 12 58), .ref (u.1 12 59), .int 0, .int 0, .int 0, .ref (u.1 12 63), .ref (u.1 12 64), .int 0, .int 0, .int 0, .ref (u.1 12 68), .ref (u.1 12 69), .ref (u.1 12 70), .ref (u.1 12 71), .ref (u.1 12 72), .ref (u.1 12 73), .ref (u.1 12 74)])), ((u.1 12 2), .inl ((u.2 12 2), 10, .inl (fun _ => 0))), ((u.1 12 4), .inl ((u.2 12 4), 60, .inl (fun _ => 0))), ((u.1 12 5), .inl ((u.2 12 5), 60, .inl (fun _ => 0))), ((u.1 12 6), .inl ((u.2 12 6), 60, .inl (fun _ => 0))), ((u.1 12 7), .inl ((u.2 12 7), 60, .inl (fun _ => 0))), ((u.1 12 8), .inl ((u.2 12 8), 60, .inl (fun _ => 0))), ((u.1 12 9), .inl ((u.2 12 9), 60, .inl (fun _ => 0))), ((u.1 12 10), .inl ((u.2 12 10), 60, .inl (fun _ => 0))), ((u.1 12 11), .inl ((u.2 12 11), 60, .inl (fun _ => 0))), ((u.1 12 12), .inl ((u.2 12 12), 60, .inl (fun _ => 0))), ((u.1 12 14), .inl ((u.2 12 14), 30, .inl (fun _ => 0))), ((u.1 12 15), .inl ((u.2 12 15), 30, .inl (fun _ => 0))), ((u.1 12 16), .inl ((u.2 12 16), 30, .inl (fun _ => 0))), ((u.1 12 24), .inl ((u.2 12 24), 8, .inl (fun _ => 0))), ((u.1 12 25), .inl ((u.2 12 25), 8, .inl (fun _ => 0))), ((u.1 12 26), .inl ((u.2 12 26), 96, .inl (fun _ => 0))), ((u.1 12 27), .inl ((u.2 12 27), 96, .inl (fun _ => 0))), ((u.1 12 28), .inl ((u.2 12 28), 96, .inl (fun _ => 0))), ((u.1 12 29), .inl ((u.2 12 29), 96, .inl (fun _ => 0))), ((u.1 12 30), .inl ((u.2 12 30), 96, .inl (fun _ => 0))), ((u.1 12 31), .inl ((u.2 12 31), 768, .inl (fun _ => 0))), ((u.1 12 32), .inl ((u.2 12 32), 200, .inl (fun _ => 0))), ((u.1 12 39), .inl ((u.2 12 39), 8, .inl (fun _ => 0))), ((u.1 12 40), .inl ((u.2 12 40), 8, .inl (fun _ => 0))), ((u.1 12 42), .inl ((u.2 12 42), 3, .inr (.inl (fun _ => 0)))), ((u.1 12 43), .inl ((u.2 12 43), 3, .inr (.inl (fun _ => 0)))), ((u.1 12 49), .inl ((u.2 12 49), 80, .inl (fun _ => 0))), ((u.1 12 50), .inl ((u.2 12 50), 12, .inl (fun _ => 0))), ((u.1 12 51), .inl ((u.2 12 51), 10, .inl (fun _ => 0))), ((u.1 12 52), .inl ((u.2 12 52), 120, .inl (fun _ => 0))), ((u.1 12 53), .inl ((u.2 12 53), 10, .inl (fun _ => 0))), ((u.1 12 54), .inl ((u.2 12 54), 80, .inl (fun _ => 0))), ((u.1 12 55), .inl ((u.2 12 55), 10, .inl (fun _ => 0))), ((u.1 12 56), .inl ((u.2 12 56), 10, .inl (fun _ => 0))), ((u.1 12 58), .inl ((u.2 12 58), 8, .inl (fun _ => 0))), ((u.1 12 59), .inl ((u.2 12 59), 3, .inl (fun _ => 0))), ((u.1 12 63), .inl ((u.2 12 63), 8, .inl (fun _ => 0))), ((u.1 12 64), .inl ((u.2 12 64), 8, .inl (fun _ => 0))), ((u.1 12 68), .inl ((u.2 12 68), 40, .inl (fun _ => 0))), ((u.1 12 69), .inl ((u.2 12 69), 40, .inl (fun _ => 0))), ((u.1 12 70), .inl ((u.2 12 70), 40, .inr (.inl (fun _ => 0)))), ((u.1 12 71), .inl ((u.2 12 71), 40, .inl (fun _ => 0))), ((u.1 12 72), .inl ((u.2 12 72), 40, .inl (fun _ => 0))), ((u.1 12 73), .inl ((u.2 12 73), 40, .inl (fun _ => 0))), ((u.1 12 74), .inl ((u.2 12 74), 40, .inl (fun _ => 0)))]) u9 t := by
    intro t ht9 hW
    rw [hu9]
    exact ⟨by rw [ht9]; exact hP9, va_K.moved hW.alike hK9, hD9⟩
  exact W.vret hx hb hr (fun t ht9 hW => ⟨⟨u9, rfl, trivial, hB9 t ht9 hW⟩, hS.F ht9⟩) hS.2.2 dX12_init_383
/-! ===== made ===== -/
/-! ===== go ===== -/
set_option maxHeartbeats 4000000 in
set_option maxRecDepth 100000 in
/-- X11_go -/
theorem c_X11_go_x (l : Launch) (dC : Nat → ClassId) (dI : Nat → Nat → Nat) (sz : Nat) (h : Nat) (g : Nat → Nat → Nat) (ca : Nat → Nat → ClassId) (iv : Nat → Nat → Int32) (lv : Nat → Nat → Int64) (fa : Nat → Nat → Nat → Int32) (la : Nat → Nat → Nat → Int64) (hI : IX iv fa) (n : Int32) : Met l yX11_go (wc yX11_go cX11_go 2 (some .int)) ({ frames := 1, cells := 0, slots := 0, locals := 22 } : Room) (pW (dC, dI) classes (WX h g ca iv lv fa la) (TX ca) sz [.ref h, .int n]) (va_Qi (fun r (u : SS) => ∃ (ni_11_10 : Int32), inb (bI 11 10) ni_11_10 ∧ (((r.toInt = -100002 ∧ ¬ (0 ≤ n.toInt ∧ n.toInt ≤ 999) ∧ (ni_11_10).toInt = (iv 11 10).toInt) ∨ (r.toInt = -100003 ∧ 0 ≤ n.toInt ∧ n.toInt ≤ 999 ∧ 3000 < (iv 11 10).toInt + n.toInt ∧ (ni_11_10).toInt = (iv 11 10).toInt) ∨ (0 ≤ n.toInt ∧ n.toInt ≤ 999 ∧ (iv 11 10).toInt + n.toInt ≤ 3000 ∧ r.toInt = (iv 11 10).toInt + n.toInt ∧ (ni_11_10).toInt = (iv 11 10).toInt + n.toInt))) ∧ ((-100003) ≤ r.toInt ∧ r.toInt ≤ 3000) ∧ u = ((u2 iv 11 10 ni_11_10), lv, fa, la)) (bX (dC, dI) h g ca (va_A (WX h g ca iv lv fa la) sz)) (va_A (WX h g ca iv lv fa la) sz)) 0 0 (va_A (WX h g ca iv lv fa la) sz) := by
  refine Met.ofW (cc := cX11_go) (maxL := 2) (ret := (some .int)) (by decide) rfl ?_
  intro p e s m args below meth c s₁ B hml hv
  obtain ⟨rfl, hsz, hP, hK, hD0⟩ := hv
  have hx := B.exec
  have hb := B.bytes
  have hr := B.returns
  have ht := tb_tl (atoms_spec (ws := wc yX11_go cX11_go 2 (some .int)) B.pre)
  have hown : s.vm.findClass RX11 = some m.cls := findClass_of_methodNamed B.named
  have hlocks := B.notSynchronized
  subst hsz
  have hD := hD0.self (sz := s.heap.size)
  generalize hAe : va_A (WX h g ca iv lv fa la) s.heap.size = A at hD ⊢
  have hA : ∀ q : Nat, s.heap.size ≤ q → A q := fun q h => by rw [← hAe]; exact Or.inr h
  have hS : va_S A s.heap s.heap [] := va_S.rf
  have hl := lv_entry [.ref h, .int n] (n := 2) (Nat.le_of_ble_eq_true rfl)
  rw [lg_entry_eq]
  generalize (lg_sl [.ref h, .int n] ++ List.replicate (2 - (lg_sl [.ref h, .int n]).length) Slot.unset).toArray = ls at hl ⊢
  have hl : lv_has ls 2 [(0, .ref h), (1, .int n)] := hl
  refine lv_iload_n hx hb dX11_go_0 rfl (lv_at hl 1 rfl) ?_
  refine lv_iconst (v := 0) hx hb dX11_go_1 (by decide) ?_
  refine lv_sipush (v := 999) hx hb dX11_go_2 (by decide) ?_
  refine vp_callSi (W.runS (As := [.int n, .int 0, .int 999]) (rest := []) ⟨hx, hb, hml, hown, ht⟩ (c_X11_within l dC dI n 0 999 (n.toInt) (0) (999) (rfl : (n).toInt = _) (by decide : (0 : Int32).toInt = 0) (by decide : (999 : Int32).toInt = 999)) (kS 3 ht m_453 m_454 m_77 m_455 rfl rfl hd_X11_within_v ⟨Nat.le_of_ble_eq_true rfl, Nat.le_of_ble_eq_true rfl⟩) (sR noP (hK.sub (tys' := []) [] rfl)) rfl rfl hl.1 rfl (lv_room (Nat.le_of_ble_eq_true rfl)) dX11_go_5 ⟨Nat.le_of_ble_eq_true rfl, Nat.le_of_ble_eq_true rfl⟩) (fun r1 hr1 => ?_)
  rcases hr1 with ⟨rfl, fr1⟩ | ⟨rfl, fr1⟩
  · skip
    refine lv_if_ne (tgt := 14) hx hb dX11_go_8 (by decide) (fun c2 => ?_) (fun c2 => ?_)
    · skip
      refine lv_aload_n hx hb dX11_go_14 rfl (lv_at hl 0 rfl) ?_
      have i_11_10 : 0 ≤ (iv 11 10).toInt ∧ (iv 11 10).toInt ≤ 3000 := hI.1 11 10
      refine gX_11_10 hx hb ht hown hK hP m_425 (v := (iv 11 10)) rfl dX11_go_15 ?_
      refine lv_iload_n hx hb dX11_go_18 rfl (lv_at hl 1 rfl) ?_
      refine lv_iadd hx hb dX11_go_19 ?_
      refine lv_topi (fun v3 ev3 => ?_)
      have tv3 := z_add ev3 (rfl : ((iv 11 10)).toInt = _) (rfl : (n).toInt = _) (by omega) (by omega)
      refine lv_sipush (v := 3000) hx hb dX11_go_20 (by decide) ?_
      refine lv_icmp_le (tgt := 29) hx hb dX11_go_23 (by decide) (fun c4 => ?_) (fun c4 => ?_)
      · have fc4 := z_le (rfl : (v3).toInt = _) (by decide : (3000 : Int32).toInt = 3000) c4
        refine lv_aload_n hx hb dX11_go_29 rfl (lv_at hl 0 rfl) ?_
        refine lv_dup hx hb dX11_go_30 rfl ?_
        refine gX_11_10 hx hb ht hown hK hP m_425 (v := (iv 11 10)) rfl dX11_go_31 ?_
        refine lv_iload_n hx hb dX11_go_34 rfl (lv_at hl 1 rfl) ?_
        refine lv_iadd hx hb dX11_go_35 ?_
        refine lv_topi (fun v5 ev5 => ?_)
        obtain rfl : v3 = v5 := ev3.trans ev5.symm
        refine pX_11_10 (v := v3) hx hb ht hown hK hP hD hS m_425 dX11_go_36 (fun H locs hP hD hS => ?_)
        refine lv_aload_n hx hb dX11_go_39 rfl (lv_at hl 0 rfl) ?_
        refine gX_11_10 hx hb ht hown hK hP m_425 (v := v3) rfl dX11_go_40 ?_
        have hP9 : va_P (dC, dI) classes (WX h g ca (u2 iv 11 10 v3) lv fa la) H := hP
        have hD9 : va_D A (WX h g ca (u2 iv 11 10 v3) lv fa la) := hD
        exact W.iret (v := v3) hx hb hr (fun t ht9 hW => ⟨⟨v3, ((u2 iv 11 10 v3), lv, fa, la), rfl, ⟨v3, (show inb (0, 3000) v3 from ⟨by omega, by omega⟩), (show (((v3 : Int32).toInt = -100002 ∧ ¬ (0 ≤ (n).toInt ∧ (n).toInt ≤ 999) ∧ (v3 : Int32).toInt = (iv 11 10).toInt) ∨ ((v3 : Int32).toInt = -100003 ∧ 0 ≤ (n).toInt ∧ (n).toInt ≤ 999 ∧ 3000 < (iv 11 10).toInt + (n).toInt ∧ (v3 : Int32).toInt = (iv 11 10).toInt) ∨ (0 ≤ (n).toInt ∧ (n).toInt ≤ 999 ∧ (iv 11 10).toInt + (n).toInt ≤ 3000 ∧ (v3 : Int32).toInt = (iv 11 10).toInt + (n).toInt ∧ (v3 : Int32).toInt = (iv 11 10).toInt + (n).toInt)) from by omega), ⟨by omega, by omega⟩, rfl⟩, by rw [ht9]; exact hP9, hD9⟩, hS.F ht9⟩) hS.2.2 dX11_go_43
      · have fc4 := z_nle (rfl : (v3).toInt = _) (by decide : (3000 : Int32).toInt = 3000) c4
        refine lv_ldc hx hb hown (ht _ m_457) dX11_go_26 ?_
        have : ((-100003) : Int32).toInt = (-100003) := (by decide)
        have hP9 : va_P (dC, dI) classes (WX h g ca (u2 iv 11 10 (iv 11 10)) lv fa la) s.heap := hP
        have hD9 : va_D A (WX h g ca (u2 iv 11 10 (iv 11 10)) lv fa la) := hD
        exact W.iret (v := (-100003)) hx hb hr (fun t ht9 hW => ⟨⟨(-100003), ((u2 iv 11 10 (iv 11 10)), lv, fa, la), rfl, ⟨(iv 11 10), (hI.1 11 10), (show ((((-100003) : Int32).toInt = -100002 ∧ ¬ (0 ≤ (n).toInt ∧ (n).toInt ≤ 999) ∧ ((iv 11 10) : Int32).toInt = (iv 11 10).toInt) ∨ (((-100003) : Int32).toInt = -100003 ∧ 0 ≤ (n).toInt ∧ (n).toInt ≤ 999 ∧ 3000 < (iv 11 10).toInt + (n).toInt ∧ ((iv 11 10) : Int32).toInt = (iv 11 10).toInt) ∨ (0 ≤ (n).toInt ∧ (n).toInt ≤ 999 ∧ (iv 11 10).toInt + (n).toInt ≤ 3000 ∧ ((-100003) : Int32).toInt = (iv 11 10).toInt + (n).toInt ∧ ((iv 11 10) : Int32).toInt = (iv 11 10).toInt + (n).toInt)) from by omega), ⟨by decide, by decide⟩, rfl⟩, by rw [ht9]; exact hP9, hD9⟩, hS.F ht9⟩) hS.2.2 dX11_go_28
    · exact absurd c2 (by decide)
  · skip
    refine lv_if_ne (tgt := 14) hx hb dX11_go_8 (by decide) (fun c6 => ?_) (fun c6 => ?_)
    · exact absurd rfl c6
    · skip
      refine lv_ldc hx hb hown (ht _ m_456) dX11_go_11 ?_
      have : ((-100002) : Int32).toInt = (-100002) := (by decide)
      have i_11_10 : 0 ≤ (iv 11 10).toInt ∧ (iv 11 10).toInt ≤ 3000 := hI.1 11 10
      have hP9 : va_P (dC, dI) classes (WX h g ca (u2 iv 11 10 (iv 11 10)) lv fa la) s.heap := hP
      have hD9 : va_D A (WX h g ca (u2 iv 11 10 (iv 11 10)) lv fa la) := hD
      exact W.iret (v := (-100002)) hx hb hr (fun t ht9 hW => ⟨⟨(-100002), ((u2 iv 11 10 (iv 11 10)), lv, fa, la), rfl, ⟨(iv 11 10), (hI.1 11 10), (show ((((-100002) : Int32).toInt = -100002 ∧ ¬ (0 ≤ (n).toInt ∧ (n).toInt ≤ 999) ∧ ((iv 11 10) : Int32).toInt = (iv 11 10).toInt) ∨ (((-100002) : Int32).toInt = -100003 ∧ 0 ≤ (n).toInt ∧ (n).toInt ≤ 999 ∧ 3000 < (iv 11 10).toInt + (n).toInt ∧ ((iv 11 10) : Int32).toInt = (iv 11 10).toInt) ∨ (0 ≤ (n).toInt ∧ (n).toInt ≤ 999 ∧ (iv 11 10).toInt + (n).toInt ≤ 3000 ∧ ((-100002) : Int32).toInt = (iv 11 10).toInt + (n).toInt ∧ ((iv 11 10) : Int32).toInt = (iv 11 10).toInt + (n).toInt)) from by omega), ⟨by decide, by decide⟩, rfl⟩, by rw [ht9]; exact hP9, hD9⟩, hS.F ht9⟩) hS.2.2 dX11_go_13
set_option maxHeartbeats 4000000 in
set_option maxRecDepth 100000 in
/-- X12_go -/
theorem c_X12_go_x (l : Launch) (dC : Nat → ClassId) (dI : Nat → Nat → Nat) (sz : Nat) (h : Nat) (g : Nat → Nat → Nat) (ca : Nat → Nat → ClassId) (iv : Nat → Nat → Int32) (lv : Nat → Nat → Int64) (fa : Nat → Nat → Nat → Int32) (la : Nat → Nat → Nat → Int64) (hI : IX iv fa) (n : Int32) : Met l yX12_go (wc yX12_go cX12_go 2 (some .int)) ({ frames := 1, cells := 0, slots := 0, locals := 25 } : Room) (pW (dC, dI) classes (WM h g ca iv lv fa la) (TM ca) sz [.ref h, .int n]) (va_Qi (fun r (u : SS) => ∃ (ni_12_0 : Int32), inb (bI 12 0) ni_12_0 ∧ (((r.toInt = -100002 ∧ ¬ (0 ≤ n.toInt ∧ n.toInt ≤ 999) ∧ (ni_12_0).toInt = (iv 12 0).toInt) ∨ (r.toInt = -100003 ∧ 0 ≤ n.toInt ∧ n.toInt ≤ 999 ∧ 3000 < (iv 12 0).toInt + n.toInt ∧ (ni_12_0).toInt = (iv 12 0).toInt) ∨ (0 ≤ n.toInt ∧ n.toInt ≤ 999 ∧ (iv 12 0).toInt + n.toInt ≤ 3000 ∧ r.toInt = (iv 12 0).toInt + n.toInt ∧ (ni_12_0).toInt = (iv 12 0).toInt + n.toInt))) ∧ ((-100003) ≤ r.toInt ∧ r.toInt ≤ 3000) ∧ u = ((u2 iv 12 0 ni_12_0), lv, fa, la)) (bM (dC, dI) h g ca (va_A (WM h g ca iv lv fa la) sz)) (va_A (WM h g ca iv lv fa la) sz)) 0 0 (va_A (WM h g ca iv lv fa la) sz) := by
  refine Met.ofW (cc := cX12_go) (maxL := 2) (ret := (some .int)) (by decide) rfl ?_
  intro p e s m args below meth c s₁ B hml hv
  obtain ⟨rfl, hsz, hP, hK, hD0⟩ := hv
  have hx := B.exec
  have hb := B.bytes
  have hr := B.returns
  have ht := tb_tl (atoms_spec (ws := wc yX12_go cX12_go 2 (some .int)) B.pre)
  have hown : s.vm.findClass RX12 = some m.cls := findClass_of_methodNamed B.named
  have hlocks := B.notSynchronized
  subst hsz
  have hD := hD0.self (sz := s.heap.size)
  generalize hAe : va_A (WM h g ca iv lv fa la) s.heap.size = A at hD ⊢
  have hA : ∀ q : Nat, s.heap.size ≤ q → A q := fun q h => by rw [← hAe]; exact Or.inr h
  have hS : va_S A s.heap s.heap [] := va_S.rf
  have hl := lv_entry [.ref h, .int n] (n := 2) (Nat.le_of_ble_eq_true rfl)
  rw [lg_entry_eq]
  generalize (lg_sl [.ref h, .int n] ++ List.replicate (2 - (lg_sl [.ref h, .int n]).length) Slot.unset).toArray = ls at hl ⊢
  have hl : lv_has ls 2 [(0, .ref h), (1, .int n)] := hl
  refine lv_iload_n hx hb dX12_go_0 rfl (lv_at hl 1 rfl) ?_
  refine lv_i2l (v := (n.toInt64)) hx hb dX12_go_1 rfl ?_
  refine lv_lconst (v := 0) hx hb dX12_go_2 (by decide) ?_
  refine lv_ldc2 hx hb hown (ht _ m_1369) dX12_go_3 ?_
  refine vp_callSi (W.runS (As := [.long (n.toInt64), .long 0, .long 999]) (rest := []) ⟨hx, hb, hml, hown, ht⟩ (c_X12_in l dC dI (n.toInt64) 0 999 (n.toInt) (0) (999) ((Int32.toInt_toInt64 n).trans rfl) (by decide : (0 : Int64).toInt = 0) (by decide : (999 : Int64).toInt = 999)) (kS 3 ht m_1370 m_1371 m_89 m_1372 rfl rfl hd_X12_in_v ⟨Nat.le_of_ble_eq_true rfl, Nat.le_of_ble_eq_true rfl⟩) (sR noP (hK.sub (tys' := []) [] rfl)) rfl rfl hl.1 rfl (lv_room (Nat.le_of_ble_eq_true rfl)) dX12_go_6 ⟨Nat.le_of_ble_eq_true rfl, Nat.le_of_ble_eq_true rfl⟩) (fun r1 hr1 => ?_)
  rcases hr1 with ⟨rfl, fr1⟩ | ⟨rfl, fr1⟩
  · skip
    refine lv_if_ne (tgt := 15) hx hb dX12_go_9 (by decide) (fun c2 => ?_) (fun c2 => ?_)
    · skip
      refine lv_aload_n hx hb dX12_go_15 rfl (lv_at hl 0 rfl) ?_
      have i_12_0 : 0 ≤ (iv 12 0).toInt ∧ (iv 12 0).toInt ≤ 3000 := hI.1 12 0
      refine gM_12_0 hx hb ht hown hK hP m_1139 (v := (iv 12 0)) rfl dX12_go_16 ?_
      refine lv_iload_n hx hb dX12_go_19 rfl (lv_at hl 1 rfl) ?_
      refine lv_iadd hx hb dX12_go_20 ?_
      refine lv_topi (fun v3 ev3 => ?_)
      have tv3 := z_add ev3 (rfl : ((iv 12 0)).toInt = _) (rfl : (n).toInt = _) (by omega) (by omega)
      refine lv_sipush (v := 3000) hx hb dX12_go_21 (by decide) ?_
      refine lv_icmp_le (tgt := 30) hx hb dX12_go_24 (by decide) (fun c4 => ?_) (fun c4 => ?_)
      · have fc4 := z_le (rfl : (v3).toInt = _) (by decide : (3000 : Int32).toInt = 3000) c4
        refine lv_aload_n hx hb dX12_go_30 rfl (lv_at hl 0 rfl) ?_
        refine lv_dup hx hb dX12_go_31 rfl ?_
        refine gM_12_0 hx hb ht hown hK hP m_1139 (v := (iv 12 0)) rfl dX12_go_32 ?_
        refine lv_iload_n hx hb dX12_go_35 rfl (lv_at hl 1 rfl) ?_
        refine lv_iadd hx hb dX12_go_36 ?_
        refine lv_topi (fun v5 ev5 => ?_)
        obtain rfl : v3 = v5 := ev3.trans ev5.symm
        refine pM_12_0 (v := v3) hx hb ht hown hK hP hD hS m_1139 dX12_go_37 (fun H locs hP hD hS => ?_)
        refine lv_aload_n hx hb dX12_go_40 rfl (lv_at hl 0 rfl) ?_
        refine gM_12_0 hx hb ht hown hK hP m_1139 (v := v3) rfl dX12_go_41 ?_
        have hP9 : va_P (dC, dI) classes (WM h g ca (u2 iv 12 0 v3) lv fa la) H := hP
        have hD9 : va_D A (WM h g ca (u2 iv 12 0 v3) lv fa la) := hD
        exact W.iret (v := v3) hx hb hr (fun t ht9 hW => ⟨⟨v3, ((u2 iv 12 0 v3), lv, fa, la), rfl, ⟨v3, (show inb (0, 3000) v3 from ⟨by omega, by omega⟩), (show (((v3 : Int32).toInt = -100002 ∧ ¬ (0 ≤ (n).toInt ∧ (n).toInt ≤ 999) ∧ (v3 : Int32).toInt = (iv 12 0).toInt) ∨ ((v3 : Int32).toInt = -100003 ∧ 0 ≤ (n).toInt ∧ (n).toInt ≤ 999 ∧ 3000 < (iv 12 0).toInt + (n).toInt ∧ (v3 : Int32).toInt = (iv 12 0).toInt) ∨ (0 ≤ (n).toInt ∧ (n).toInt ≤ 999 ∧ (iv 12 0).toInt + (n).toInt ≤ 3000 ∧ (v3 : Int32).toInt = (iv 12 0).toInt + (n).toInt ∧ (v3 : Int32).toInt = (iv 12 0).toInt + (n).toInt)) from by omega), ⟨by omega, by omega⟩, rfl⟩, by rw [ht9]; exact hP9, hD9⟩, hS.F ht9⟩) hS.2.2 dX12_go_44
      · have fc4 := z_nle (rfl : (v3).toInt = _) (by decide : (3000 : Int32).toInt = 3000) c4
        refine lv_ldc hx hb hown (ht _ m_1374) dX12_go_27 ?_
        have : ((-100003) : Int32).toInt = (-100003) := (by decide)
        have hP9 : va_P (dC, dI) classes (WM h g ca (u2 iv 12 0 (iv 12 0)) lv fa la) s.heap := hP
        have hD9 : va_D A (WM h g ca (u2 iv 12 0 (iv 12 0)) lv fa la) := hD
        exact W.iret (v := (-100003)) hx hb hr (fun t ht9 hW => ⟨⟨(-100003), ((u2 iv 12 0 (iv 12 0)), lv, fa, la), rfl, ⟨(iv 12 0), (hI.1 12 0), (show ((((-100003) : Int32).toInt = -100002 ∧ ¬ (0 ≤ (n).toInt ∧ (n).toInt ≤ 999) ∧ ((iv 12 0) : Int32).toInt = (iv 12 0).toInt) ∨ (((-100003) : Int32).toInt = -100003 ∧ 0 ≤ (n).toInt ∧ (n).toInt ≤ 999 ∧ 3000 < (iv 12 0).toInt + (n).toInt ∧ ((iv 12 0) : Int32).toInt = (iv 12 0).toInt) ∨ (0 ≤ (n).toInt ∧ (n).toInt ≤ 999 ∧ (iv 12 0).toInt + (n).toInt ≤ 3000 ∧ ((-100003) : Int32).toInt = (iv 12 0).toInt + (n).toInt ∧ ((iv 12 0) : Int32).toInt = (iv 12 0).toInt + (n).toInt)) from by omega), ⟨by decide, by decide⟩, rfl⟩, by rw [ht9]; exact hP9, hD9⟩, hS.F ht9⟩) hS.2.2 dX12_go_29
    · exact absurd c2 (by decide)
  · skip
    refine lv_if_ne (tgt := 15) hx hb dX12_go_9 (by decide) (fun c6 => ?_) (fun c6 => ?_)
    · exact absurd rfl c6
    · skip
      refine lv_ldc hx hb hown (ht _ m_1373) dX12_go_12 ?_
      have : ((-100002) : Int32).toInt = (-100002) := (by decide)
      have i_12_0 : 0 ≤ (iv 12 0).toInt ∧ (iv 12 0).toInt ≤ 3000 := hI.1 12 0
      have hP9 : va_P (dC, dI) classes (WM h g ca (u2 iv 12 0 (iv 12 0)) lv fa la) s.heap := hP
      have hD9 : va_D A (WM h g ca (u2 iv 12 0 (iv 12 0)) lv fa la) := hD
      exact W.iret (v := (-100002)) hx hb hr (fun t ht9 hW => ⟨⟨(-100002), ((u2 iv 12 0 (iv 12 0)), lv, fa, la), rfl, ⟨(iv 12 0), (hI.1 12 0), (show ((((-100002) : Int32).toInt = -100002 ∧ ¬ (0 ≤ (n).toInt ∧ (n).toInt ≤ 999) ∧ ((iv 12 0) : Int32).toInt = (iv 12 0).toInt) ∨ (((-100002) : Int32).toInt = -100003 ∧ 0 ≤ (n).toInt ∧ (n).toInt ≤ 999 ∧ 3000 < (iv 12 0).toInt + (n).toInt ∧ ((iv 12 0) : Int32).toInt = (iv 12 0).toInt) ∨ (0 ≤ (n).toInt ∧ (n).toInt ≤ 999 ∧ (iv 12 0).toInt + (n).toInt ≤ 3000 ∧ ((-100002) : Int32).toInt = (iv 12 0).toInt + (n).toInt ∧ ((iv 12 0) : Int32).toInt = (iv 12 0).toInt + (n).toInt)) from by omega), ⟨by decide, by decide⟩, rfl⟩, by rw [ht9]; exact hP9, hD9⟩, hS.F ht9⟩) hS.2.2 dX12_go_14
set_option maxHeartbeats 4000000 in
set_option maxRecDepth 100000 in
/-- X0_bring -/
theorem c_X0_bring_x (l : Launch) (dC : Nat → ClassId) (dI : Nat → Nat → Nat) (sz : Nat) (h : Nat) (g : Nat → Nat → Nat) (ca : Nat → Nat → ClassId) (iv : Nat → Nat → Int32) (lv : Nat → Nat → Int64) (fa : Nat → Nat → Nat → Int32) (la : Nat → Nat → Nat → Int64) (hI : IX iv fa) (a : Int32) (q_0_7 : 0 ≤ (iv 0 7).toInt ∧ (iv 0 7).toInt ≤ 9) : Met l yX0_bring (wc yX0_bring cX0_bring 2 (some .int)) ({ frames := 0, cells := 0, slots := 0, locals := 0 } : Room) (pW (dC, dI) classes (WX h g ca iv lv fa la) (TX ca) sz [.ref (g 11 2), .int a]) (va_Qi (fun r (u : SS) => ∃ (na_0_0 : Nat → Int32) (ni_0_7 : Int32), inb (bI 0 7) ni_0_7 ∧ ni_0_7.toInt = (iv 0 7).toInt + 1 ∧ (r.toInt = (iv 0 7).toInt) ∧ (∀ j : Nat, j ≠ ((iv 0 7).toInt).toNat → na_0_0 j = (fa 0 0) j) ∧ (na_0_0 ((iv 0 7).toInt).toNat = a) ∧ (0 ≤ r.toInt ∧ r.toInt ≤ 9) ∧ u = ((u2 iv 0 7 ni_0_7), lv, (u2 fa 0 0 na_0_0), la)) (bX (dC, dI) h g ca (va_A (WX h g ca iv lv fa la) sz)) (va_A (WX h g ca iv lv fa la) sz)) 0 0 (va_A (WX h g ca iv lv fa la) sz) := by
  refine Met.ofW (cc := cX0_bring) (maxL := 2) (ret := (some .int)) (by decide) rfl ?_
  intro p e s m args below meth c s₁ B hml hv
  obtain ⟨rfl, hsz, hP, hK, hD0⟩ := hv
  have hx := B.exec
  have hb := B.bytes
  have hr := B.returns
  have ht := tb_tl (atoms_spec (ws := wc yX0_bring cX0_bring 2 (some .int)) B.pre)
  have hown : s.vm.findClass RX0 = some m.cls := findClass_of_methodNamed B.named
  have hlocks := B.notSynchronized
  subst hsz
  have hD := hD0.self (sz := s.heap.size)
  generalize hAe : va_A (WX h g ca iv lv fa la) s.heap.size = A at hD ⊢
  have hA : ∀ q : Nat, s.heap.size ≤ q → A q := fun q h => by rw [← hAe]; exact Or.inr h
  have hS : va_S A s.heap s.heap [] := va_S.rf
  have hl := lv_entry [.ref (g 11 2), .int a] (n := 2) (Nat.le_of_ble_eq_true rfl)
  rw [lg_entry_eq]
  generalize (lg_sl [.ref (g 11 2), .int a] ++ List.replicate (2 - (lg_sl [.ref (g 11 2), .int a]).length) Slot.unset).toArray = ls at hl ⊢
  have hl : lv_has ls 2 [(0, .ref (g 11 2)), (1, .int a)] := hl
  refine lv_aload_n hx hb dX0_bring_0 rfl (lv_at hl 0 rfl) ?_
  refine gX_0_0 hx hb ht hown hK hP m_152 dX0_bring_1 ?_
  refine lv_aload_n hx hb dX0_bring_4 rfl (lv_at hl 0 rfl) ?_
  have i_0_7 : 0 ≤ (iv 0 7).toInt ∧ (iv 0 7).toInt ≤ 10 := hI.1 0 7
  refine gX_0_7 hx hb ht hown hK hP m_164 (v := (iv 0 7)) rfl dX0_bring_5 ?_
  refine lv_iload_n hx hb dX0_bring_8 rfl (lv_at hl 1 rfl) ?_
  refine tX_0_0 hx hb hK hP hD hS (f0 := (fa 0 0)) rfl (i := (iv 0 7)) (x := a) (vp_in_iff.mpr ⟨by omega, by omega⟩) dX0_bring_9 (fun f1 ef1 H locs hP hD hS => ?_)
  have hf1 : ∀ j, inb (bA 0 0 j) (f1 j) := fun j => full_i _
  refine lv_aload_n hx hb dX0_bring_10 rfl (lv_at hl 0 rfl) ?_
  refine lv_dup hx hb dX0_bring_11 rfl ?_
  refine gX_0_7 hx hb ht hown hK hP m_164 (v := (iv 0 7)) rfl dX0_bring_12 ?_
  refine lv_iconst (v := 1) hx hb dX0_bring_15 (by decide) ?_
  refine lv_iadd hx hb dX0_bring_16 ?_
  refine lv_topi (fun v2 ev2 => ?_)
  have tv2 := z_add ev2 (rfl : ((iv 0 7)).toInt = _) (by decide : (1 : Int32).toInt = 1) (by omega) (by omega)
  refine pX_0_7 (v := v2) hx hb ht hown hK hP hD hS m_164 dX0_bring_17 (fun H locs hP hD hS => ?_)
  refine lv_aload_n hx hb dX0_bring_20 rfl (lv_at hl 0 rfl) ?_
  refine gX_0_7 hx hb ht hown hK hP m_164 (v := v2) rfl dX0_bring_21 ?_
  refine lv_iconst (v := 1) hx hb dX0_bring_24 (by decide) ?_
  refine lv_isub hx hb dX0_bring_25 ?_
  refine lv_topi (fun v3 ev3 => ?_)
  have tv3 := z_sub ev3 (rfl : (v2).toInt = _) (by decide : (1 : Int32).toInt = 1) (by omega) (by omega)
  have hP9 : va_P (dC, dI) classes (WX h g ca (u2 iv 0 7 v2) lv (u2 fa 0 0 f1) la) H := hP
  have hD9 : va_D A (WX h g ca (u2 iv 0 7 v2) lv (u2 fa 0 0 f1) la) := hD
  exact W.iret (v := v3) hx hb hr (fun t ht9 hW => ⟨⟨v3, ((u2 iv 0 7 v2), lv, (u2 fa 0 0 f1), la), rfl, ⟨f1, v2, (show inb (0, 10) v2 from ⟨by omega, by omega⟩), (by omega), (show (v3 : Int32).toInt = (iv 0 7).toInt from by omega), (show ∀ j : Nat, j ≠ ((iv 0 7).toInt).toNat → f1 j = (fa 0 0) j from fun j hj => by rw [ef1, upd_ne (show j ≠ ((iv 0 7) : Int32).toNatClampNeg from hj)]), (show f1 ((iv 0 7).toInt).toNat = a from (by rw [ef1]; exact upd_eq)), ⟨by omega, by omega⟩, rfl⟩, by rw [ht9]; exact hP9, hD9⟩, hS.F ht9⟩) hS.2.2 dX0_bring_26
set_option maxHeartbeats 4000000 in
set_option maxRecDepth 100000 in
/-- X11_bale -/
theorem c_X11_bale_x (l : Launch) (dC : Nat → ClassId) (dI : Nat → Nat → Nat) (sz : Nat) (h : Nat) (g : Nat → Nat → Nat) (ca : Nat → Nat → ClassId) (iv : Nat → Nat → Int32) (lv : Nat → Nat → Int64) (fa : Nat → Nat → Nat → Int32) (la : Nat → Nat → Nat → Int64) (hI : IX iv fa) (n : Int32) : Met l yX11_bale (wc yX11_bale cX11_bale 2 (some .int)) ({ frames := 1, cells := 0, slots := 0, locals := 22 } : Room) (pW (dC, dI) classes (WX h g ca iv lv fa la) (TX ca) sz [.ref h, .int n]) (va_Qi (fun r (u : SS) => ∃ (na_0_0 : Nat → Int32) (ni_0_7 : Int32), inb (bI 0 7) ni_0_7 ∧ (((r.toInt = -100002 ∧ ¬ (1 ≤ n.toInt ∧ n.toInt ≤ 99999) ∧ (ni_0_7).toInt = (iv 0 7).toInt) ∨ (r.toInt = -100004 ∧ (1 ≤ n.toInt ∧ n.toInt ≤ 99999) ∧ 10 ≤ (iv 0 7).toInt ∧ (ni_0_7).toInt = (iv 0 7).toInt) ∨ ((1 ≤ n.toInt ∧ n.toInt ≤ 99999) ∧ (iv 0 7).toInt < 10 ∧ r.toInt = (iv 0 7).toInt ∧ (ni_0_7).toInt = (iv 0 7).toInt + 1))) ∧ (((r.toInt < 0 ∧ ∀ j : Nat, na_0_0 j = (fa 0 0) j) ∨ (0 ≤ r.toInt ∧ 1 ≤ n.toInt ∧ n.toInt ≤ 99999 ∧ (∀ j : Nat, j ≠ ((iv 0 7).toInt).toNat → na_0_0 j = (fa 0 0) j) ∧ na_0_0 ((iv 0 7).toInt).toNat = n))) ∧ ((-100004) ≤ r.toInt ∧ r.toInt ≤ 9) ∧ u = ((u2 iv 0 7 ni_0_7), lv, (u2 fa 0 0 na_0_0), la)) (bX (dC, dI) h g ca (va_A (WX h g ca iv lv fa la) sz)) (va_A (WX h g ca iv lv fa la) sz)) 0 0 (va_A (WX h g ca iv lv fa la) sz) := by
  refine Met.ofW (cc := cX11_bale) (maxL := 2) (ret := (some .int)) (by decide) rfl ?_
  intro p e s m args below meth c s₁ B hml hv
  obtain ⟨rfl, hsz, hP, hK, hD0⟩ := hv
  have hx := B.exec
  have hb := B.bytes
  have hr := B.returns
  have ht := tb_tl (atoms_spec (ws := wc yX11_bale cX11_bale 2 (some .int)) B.pre)
  have hown : s.vm.findClass RX11 = some m.cls := findClass_of_methodNamed B.named
  have hlocks := B.notSynchronized
  subst hsz
  have hD := hD0.self (sz := s.heap.size)
  generalize hAe : va_A (WX h g ca iv lv fa la) s.heap.size = A at hD ⊢
  have hA : ∀ q : Nat, s.heap.size ≤ q → A q := fun q h => by rw [← hAe]; exact Or.inr h
  have hS : va_S A s.heap s.heap [] := va_S.rf
  have hl := lv_entry [.ref h, .int n] (n := 2) (Nat.le_of_ble_eq_true rfl)
  rw [lg_entry_eq]
  generalize (lg_sl [.ref h, .int n] ++ List.replicate (2 - (lg_sl [.ref h, .int n]).length) Slot.unset).toArray = ls at hl ⊢
  have hl : lv_has ls 2 [(0, .ref h), (1, .int n)] := hl
  refine lv_iload_n hx hb dX11_bale_0 rfl (lv_at hl 1 rfl) ?_
  refine lv_iconst (v := 1) hx hb dX11_bale_1 (by decide) ?_
  refine lv_ldc hx hb hown (ht _ m_462) dX11_bale_2 ?_
  refine vp_callSi (W.runS (As := [.int n, .int 1, .int 99999]) (rest := []) ⟨hx, hb, hml, hown, ht⟩ (c_X11_within l dC dI n 1 99999 (n.toInt) (1) (99999) (rfl : (n).toInt = _) (by decide : (1 : Int32).toInt = 1) (by decide : (99999 : Int32).toInt = 99999)) (kS 3 ht m_453 m_454 m_77 m_455 rfl rfl hd_X11_within_v ⟨Nat.le_of_ble_eq_true rfl, Nat.le_of_ble_eq_true rfl⟩) (sR noP (hK.sub (tys' := []) [] rfl)) rfl rfl hl.1 rfl (lv_room (Nat.le_of_ble_eq_true rfl)) dX11_bale_4 ⟨Nat.le_of_ble_eq_true rfl, Nat.le_of_ble_eq_true rfl⟩) (fun r1 hr1 => ?_)
  rcases hr1 with ⟨rfl, fr1⟩ | ⟨rfl, fr1⟩
  · skip
    refine lv_if_ne (tgt := 13) hx hb dX11_bale_7 (by decide) (fun c2 => ?_) (fun c2 => ?_)
    · skip
      refine lv_aload_n hx hb dX11_bale_13 rfl (lv_at hl 0 rfl) ?_
      refine gX_11_2 hx hb ht hown hK hP m_417 dX11_bale_14 ?_
      have i_0_7 : 0 ≤ (iv 0 7).toInt ∧ (iv 0 7).toInt ≤ 10 := hI.1 0 7
      refine gX_0_7 hx hb ht hown hK hP m_165 (v := (iv 0 7)) rfl dX11_bale_17 ?_
      refine lv_bipush (v := 10) hx hb dX11_bale_20 (by decide) ?_
      refine lv_icmp_lt (tgt := 28) hx hb dX11_bale_22 (by decide) (fun c3 => ?_) (fun c3 => ?_)
      · have fc3 := z_lt (rfl : ((iv 0 7)).toInt = _) (by decide : (10 : Int32).toInt = 10) c3
        refine lv_aload_n hx hb dX11_bale_28 rfl (lv_at hl 0 rfl) ?_
        refine gX_11_2 hx hb ht hown hK hP m_417 dX11_bale_29 ?_
        refine lv_iload_n hx hb dX11_bale_32 rfl (lv_at hl 1 rfl) ?_
        have hFc := free_all hD hS hA
        refine va_calli (va_runV (As := [.int n]) (rest := []) ⟨hx, hb, hml, hown, ht⟩ (c_X0_bring_x l dC dI s.heap.size h g ca iv lv fa la hI n (show 0 ≤ ((iv 0 7) : Int32).toInt ∧ ((iv 0 7) : Int32).toInt ≤ 9 from ⟨by omega, by omega⟩)) (kV 1 ht m_464 m_465 m_466 m_80 m_467 rfl rfl hd_X0_bring_v ⟨Nat.le_of_ble_eq_true rfl, Nat.le_of_ble_eq_true rfl⟩) (vW hP hK hD (rX_0 hK hP)) rfl rfl hl.1 rfl (lv_room (Nat.le_of_ble_eq_true rfl)) dX11_bale_33 ⟨Nat.le_of_ble_eq_true rfl, Nat.le_of_ble_eq_true rfl⟩) hS (fun q _ h => hFc q h) hFc (fun r4 u t H1 locs ht9 hvm hr4 hB hz1 hk1 hS => ?_)
        obtain ⟨n5, n6, hn6, dn6, xr4_0, xr4_1, xr4_2, hr4, rfl⟩ := hr4
        have hn5 : ∀ j, inb (bA 0 0 j) (n5 j) := fun j => full_i _
        have dn6 : n6.toInt = ((iv 0 7) : Int32).toInt + 1 := dn6
        have hn6 : 0 ≤ n6.toInt ∧ n6.toInt ≤ 10 := hn6
        obtain ⟨hP, hD⟩ := hB
        rw [ht9] at hP
        generalize H1 = H at hP hS ⊢
        have hP : va_P (dC, dI) classes (WX h g ca (u2 iv 0 7 n6) lv (u2 fa 0 0 n5) la) H := hP
        have hD : va_D A (WX h g ca (u2 iv 0 7 n6) lv (u2 fa 0 0 n5) la) := (show va_D _ (WX h g ca (u2 iv 0 7 n6) lv (u2 fa 0 0 n5) la) from hD).weaken (fun _ _ _ h => hFc _ h)
        have xr4_0 : (r4 : Int32).toInt = ((iv 0 7) : Int32).toInt := xr4_0
        have xr4_1 : ∀ j : Nat, j ≠ (((iv 0 7) : Int32).toInt).toNat → n5 j = (fa 0 0) j := xr4_1
        have xr4_2 : n5 (((iv 0 7) : Int32).toInt).toNat = (n : Int32) := xr4_2
        have hP9 : va_P (dC, dI) classes (WX h g ca (u2 iv 0 7 n6) lv (u2 fa 0 0 n5) la) H := hP
        have hD9 : va_D A (WX h g ca (u2 iv 0 7 n6) lv (u2 fa 0 0 n5) la) := hD
        exact W.iret (v := r4) hx hb hr (fun t ht9 hW => ⟨⟨r4, ((u2 iv 0 7 n6), lv, (u2 fa 0 0 n5), la), rfl, ⟨n5, n6, (show inb (0, 10) n6 from ⟨by omega, by omega⟩), (show (((r4 : Int32).toInt = -100002 ∧ ¬ (1 ≤ (n).toInt ∧ (n).toInt ≤ 99999) ∧ (n6 : Int32).toInt = (iv 0 7).toInt) ∨ ((r4 : Int32).toInt = -100004 ∧ (1 ≤ (n).toInt ∧ (n).toInt ≤ 99999) ∧ 10 ≤ (iv 0 7).toInt ∧ (n6 : Int32).toInt = (iv 0 7).toInt) ∨ ((1 ≤ (n).toInt ∧ (n).toInt ≤ 99999) ∧ (iv 0 7).toInt < 10 ∧ (r4 : Int32).toInt = (iv 0 7).toInt ∧ (n6 : Int32).toInt = (iv 0 7).toInt + 1)) from by omega), (show (((r4 : Int32).toInt < 0 ∧ ∀ j : Nat, n5 j = (fa 0 0) j) ∨ (0 ≤ (r4 : Int32).toInt ∧ 1 ≤ (n).toInt ∧ (n).toInt ≤ 99999 ∧ (∀ j : Nat, j ≠ ((iv 0 7).toInt).toNat → n5 j = (fa 0 0) j) ∧ n5 ((iv 0 7).toInt).toNat = n)) from Or.inr ⟨by omega, by omega, by omega, xr4_1, xr4_2⟩), ⟨by omega, by omega⟩, rfl⟩, by rw [ht9]; exact hP9, hD9⟩, hS.F ht9⟩) hS.2.2 dX11_bale_36
      · have fc3 := z_nlt (rfl : ((iv 0 7)).toInt = _) (by decide : (10 : Int32).toInt = 10) c3
        refine lv_ldc hx hb hown (ht _ m_463) dX11_bale_25 ?_
        have : ((-100004) : Int32).toInt = (-100004) := (by decide)
        have hP9 : va_P (dC, dI) classes (WX h g ca (u2 iv 0 7 (iv 0 7)) lv (u2 fa 0 0 (fa 0 0)) la) s.heap := hP
        have hD9 : va_D A (WX h g ca (u2 iv 0 7 (iv 0 7)) lv (u2 fa 0 0 (fa 0 0)) la) := hD
        exact W.iret (v := (-100004)) hx hb hr (fun t ht9 hW => ⟨⟨(-100004), ((u2 iv 0 7 (iv 0 7)), lv, (u2 fa 0 0 (fa 0 0)), la), rfl, ⟨(fa 0 0), (iv 0 7), (hI.1 0 7), (show ((((-100004) : Int32).toInt = -100002 ∧ ¬ (1 ≤ (n).toInt ∧ (n).toInt ≤ 99999) ∧ ((iv 0 7) : Int32).toInt = (iv 0 7).toInt) ∨ (((-100004) : Int32).toInt = -100004 ∧ (1 ≤ (n).toInt ∧ (n).toInt ≤ 99999) ∧ 10 ≤ (iv 0 7).toInt ∧ ((iv 0 7) : Int32).toInt = (iv 0 7).toInt) ∨ ((1 ≤ (n).toInt ∧ (n).toInt ≤ 99999) ∧ (iv 0 7).toInt < 10 ∧ ((-100004) : Int32).toInt = (iv 0 7).toInt ∧ ((iv 0 7) : Int32).toInt = (iv 0 7).toInt + 1)) from by omega), (show ((((-100004) : Int32).toInt < 0 ∧ ∀ j : Nat, (fa 0 0) j = (fa 0 0) j) ∨ (0 ≤ ((-100004) : Int32).toInt ∧ 1 ≤ (n).toInt ∧ (n).toInt ≤ 99999 ∧ (∀ j : Nat, j ≠ ((iv 0 7).toInt).toNat → (fa 0 0) j = (fa 0 0) j) ∧ (fa 0 0) ((iv 0 7).toInt).toNat = n)) from Or.inl ⟨by omega, fun j => rfl⟩), ⟨by decide, by decide⟩, rfl⟩, by rw [ht9]; exact hP9, hD9⟩, hS.F ht9⟩) hS.2.2 dX11_bale_27
    · exact absurd c2 (by decide)
  · skip
    refine lv_if_ne (tgt := 13) hx hb dX11_bale_7 (by decide) (fun c7 => ?_) (fun c7 => ?_)
    · exact absurd rfl c7
    · skip
      refine lv_ldc hx hb hown (ht _ m_456) dX11_bale_10 ?_
      have : ((-100002) : Int32).toInt = (-100002) := (by decide)
      have i_0_7 : 0 ≤ (iv 0 7).toInt ∧ (iv 0 7).toInt ≤ 10 := hI.1 0 7
      have hP9 : va_P (dC, dI) classes (WX h g ca (u2 iv 0 7 (iv 0 7)) lv (u2 fa 0 0 (fa 0 0)) la) s.heap := hP
      have hD9 : va_D A (WX h g ca (u2 iv 0 7 (iv 0 7)) lv (u2 fa 0 0 (fa 0 0)) la) := hD
      exact W.iret (v := (-100002)) hx hb hr (fun t ht9 hW => ⟨⟨(-100002), ((u2 iv 0 7 (iv 0 7)), lv, (u2 fa 0 0 (fa 0 0)), la), rfl, ⟨(fa 0 0), (iv 0 7), (hI.1 0 7), (show ((((-100002) : Int32).toInt = -100002 ∧ ¬ (1 ≤ (n).toInt ∧ (n).toInt ≤ 99999) ∧ ((iv 0 7) : Int32).toInt = (iv 0 7).toInt) ∨ (((-100002) : Int32).toInt = -100004 ∧ (1 ≤ (n).toInt ∧ (n).toInt ≤ 99999) ∧ 10 ≤ (iv 0 7).toInt ∧ ((iv 0 7) : Int32).toInt = (iv 0 7).toInt) ∨ ((1 ≤ (n).toInt ∧ (n).toInt ≤ 99999) ∧ (iv 0 7).toInt < 10 ∧ ((-100002) : Int32).toInt = (iv 0 7).toInt ∧ ((iv 0 7) : Int32).toInt = (iv 0 7).toInt + 1)) from by omega), (show ((((-100002) : Int32).toInt < 0 ∧ ∀ j : Nat, (fa 0 0) j = (fa 0 0) j) ∨ (0 ≤ ((-100002) : Int32).toInt ∧ 1 ≤ (n).toInt ∧ (n).toInt ≤ 99999 ∧ (∀ j : Nat, j ≠ ((iv 0 7).toInt).toNat → (fa 0 0) j = (fa 0 0) j) ∧ (fa 0 0) ((iv 0 7).toInt).toNat = n)) from Or.inl ⟨by omega, fun j => rfl⟩), ⟨by decide, by decide⟩, rfl⟩, by rw [ht9]; exact hP9, hD9⟩, hS.F ht9⟩) hS.2.2 dX11_bale_12
set_option maxHeartbeats 4000000 in
set_option maxRecDepth 100000 in
/-- X12_bale -/
theorem c_X12_bale_x (l : Launch) (dC : Nat → ClassId) (dI : Nat → Nat → Nat) (sz : Nat) (h : Nat) (g : Nat → Nat → Nat) (ca : Nat → Nat → ClassId) (iv : Nat → Nat → Int32) (lv : Nat → Nat → Int64) (fa : Nat → Nat → Nat → Int32) (la : Nat → Nat → Nat → Int64) (hI : IX iv fa) (n : Int32) : Met l yX12_bale (wc yX12_bale cX12_bale 2 (some .int)) ({ frames := 1, cells := 0, slots := 0, locals := 25 } : Room) (pW (dC, dI) classes (WM h g ca iv lv fa la) (TM ca) sz [.ref h, .int n]) (va_Qi (fun r (u : SS) => ∃ (na_12_2 : Nat → Int32) (na_12_51 : Nat → Int32) (na_12_53 : Nat → Int32) (ni_12_1 : Int32), (∀ j, inb (bA 12 51 j) (na_12_51 j)) ∧ (∀ j, inb (bA 12 53 j) (na_12_53 j)) ∧ inb (bI 12 1) ni_12_1 ∧ (((r.toInt = -100002 ∧ ¬ (1 ≤ n.toInt ∧ n.toInt ≤ 99999) ∧ (ni_12_1).toInt = (iv 12 1).toInt) ∨ (r.toInt = -100004 ∧ (1 ≤ n.toInt ∧ n.toInt ≤ 99999) ∧ 10 ≤ (iv 12 1).toInt ∧ (ni_12_1).toInt = (iv 12 1).toInt) ∨ ((1 ≤ n.toInt ∧ n.toInt ≤ 99999) ∧ (iv 12 1).toInt < 10 ∧ r.toInt = (iv 12 1).toInt ∧ (ni_12_1).toInt = (iv 12 1).toInt + 1))) ∧ (((r.toInt < 0 ∧ ∀ j : Nat, na_12_2 j = (fa 12 2) j) ∨ (0 ≤ r.toInt ∧ 1 ≤ n.toInt ∧ n.toInt ≤ 99999 ∧ (∀ j : Nat, j ≠ ((iv 12 1).toInt).toNat → na_12_2 j = (fa 12 2) j) ∧ na_12_2 ((iv 12 1).toInt).toNat = n))) ∧ ((-100004) ≤ r.toInt ∧ r.toInt ≤ 9) ∧ u = ((u2 iv 12 1 ni_12_1), lv, (u2 (u2 (u2 fa 12 2 na_12_2) 12 51 na_12_51) 12 53 na_12_53), la)) (bM (dC, dI) h g ca (va_A (WM h g ca iv lv fa la) sz)) (va_A (WM h g ca iv lv fa la) sz)) 0 0 (va_A (WM h g ca iv lv fa la) sz) := by
  refine Met.ofW (cc := cX12_bale) (maxL := 2) (ret := (some .int)) (by decide) rfl ?_
  intro p e s m args below meth c s₁ B hml hv
  obtain ⟨rfl, hsz, hP, hK, hD0⟩ := hv
  have hx := B.exec
  have hb := B.bytes
  have hr := B.returns
  have ht := tb_tl (atoms_spec (ws := wc yX12_bale cX12_bale 2 (some .int)) B.pre)
  have hown : s.vm.findClass RX12 = some m.cls := findClass_of_methodNamed B.named
  have hlocks := B.notSynchronized
  subst hsz
  have hD := hD0.self (sz := s.heap.size)
  generalize hAe : va_A (WM h g ca iv lv fa la) s.heap.size = A at hD ⊢
  have hA : ∀ q : Nat, s.heap.size ≤ q → A q := fun q h => by rw [← hAe]; exact Or.inr h
  have hS : va_S A s.heap s.heap [] := va_S.rf
  have hl := lv_entry [.ref h, .int n] (n := 2) (Nat.le_of_ble_eq_true rfl)
  rw [lg_entry_eq]
  generalize (lg_sl [.ref h, .int n] ++ List.replicate (2 - (lg_sl [.ref h, .int n]).length) Slot.unset).toArray = ls at hl ⊢
  have hl : lv_has ls 2 [(0, .ref h), (1, .int n)] := hl
  refine lv_iload_n hx hb dX12_bale_0 rfl (lv_at hl 1 rfl) ?_
  refine lv_i2l (v := (n.toInt64)) hx hb dX12_bale_1 rfl ?_
  refine lv_lconst (v := 1) hx hb dX12_bale_2 (by decide) ?_
  refine lv_ldc2 hx hb hown (ht _ m_1379) dX12_bale_3 ?_
  refine vp_callSi (W.runS (As := [.long (n.toInt64), .long 1, .long 99999]) (rest := []) ⟨hx, hb, hml, hown, ht⟩ (c_X12_in l dC dI (n.toInt64) 1 99999 (n.toInt) (1) (99999) ((Int32.toInt_toInt64 n).trans rfl) (by decide : (1 : Int64).toInt = 1) (by decide : (99999 : Int64).toInt = 99999)) (kS 3 ht m_1370 m_1371 m_89 m_1372 rfl rfl hd_X12_in_v ⟨Nat.le_of_ble_eq_true rfl, Nat.le_of_ble_eq_true rfl⟩) (sR noP (hK.sub (tys' := []) [] rfl)) rfl rfl hl.1 rfl (lv_room (Nat.le_of_ble_eq_true rfl)) dX12_bale_6 ⟨Nat.le_of_ble_eq_true rfl, Nat.le_of_ble_eq_true rfl⟩) (fun r1 hr1 => ?_)
  rcases hr1 with ⟨rfl, fr1⟩ | ⟨rfl, fr1⟩
  · skip
    refine lv_if_ne (tgt := 15) hx hb dX12_bale_9 (by decide) (fun c2 => ?_) (fun c2 => ?_)
    · skip
      refine lv_aload_n hx hb dX12_bale_15 rfl (lv_at hl 0 rfl) ?_
      have i_12_1 : 0 ≤ (iv 12 1).toInt ∧ (iv 12 1).toInt ≤ 10 := hI.1 12 1
      refine gM_12_1 hx hb ht hown hK hP m_1140 (v := (iv 12 1)) rfl dX12_bale_16 ?_
      refine lv_bipush (v := 10) hx hb dX12_bale_19 (by decide) ?_
      refine lv_icmp_ne (tgt := 27) hx hb dX12_bale_21 (by decide) (fun c3 => ?_) (fun c3 => ?_)
      · have fc3 := z_ne (rfl : ((iv 12 1)).toInt = _) (by decide : (10 : Int32).toInt = 10) c3
        refine lv_aload_n hx hb dX12_bale_27 rfl (lv_at hl 0 rfl) ?_
        refine gM_12_2 hx hb ht hown hK hP m_1141 dX12_bale_28 ?_
        refine lv_aload_n hx hb dX12_bale_31 rfl (lv_at hl 0 rfl) ?_
        refine gM_12_1 hx hb ht hown hK hP m_1140 (v := (iv 12 1)) rfl dX12_bale_32 ?_
        refine lv_iload_n hx hb dX12_bale_35 rfl (lv_at hl 1 rfl) ?_
        refine tM_12_2 hx hb hK hP hD hS (f0 := (fa 12 2)) rfl (i := (iv 12 1)) (x := n) (vp_in_iff.mpr ⟨by omega, by omega⟩) dX12_bale_36 (fun f4 ef4 H locs hP hD hS => ?_)
        have hf4 : ∀ j, inb (bA 12 2 j) (f4 j) := fun j => full_i _
        refine lv_aload_n hx hb dX12_bale_37 rfl (lv_at hl 0 rfl) ?_
        refine gM_12_51 hx hb ht hown hK hP m_1190 dX12_bale_38 ?_
        refine lv_aload_n hx hb dX12_bale_41 rfl (lv_at hl 0 rfl) ?_
        refine gM_12_1 hx hb ht hown hK hP m_1140 (v := (iv 12 1)) rfl dX12_bale_42 ?_
        refine lv_iconst (v := 0) hx hb dX12_bale_45 (by decide) ?_
        refine tM_12_51 hx hb hK hP hD hS (f0 := (fa 12 51)) rfl (i := (iv 12 1)) (x := 0) (vp_in_iff.mpr ⟨by omega, by omega⟩) dX12_bale_46 (fun f5 ef5 H locs hP hD hS => ?_)
        have hf5 : ∀ j, inb (bA 12 51 j) (f5 j) := by rw [ef5]; exact upd_b (b := bA 12 51) (hI.2 12 51) (show inb (0, 12) 0 from ⟨by decide, by decide⟩)
        refine lv_aload_n hx hb dX12_bale_47 rfl (lv_at hl 0 rfl) ?_
        refine gM_12_53 hx hb ht hown hK hP m_1192 dX12_bale_48 ?_
        refine lv_aload_n hx hb dX12_bale_51 rfl (lv_at hl 0 rfl) ?_
        refine gM_12_1 hx hb ht hown hK hP m_1140 (v := (iv 12 1)) rfl dX12_bale_52 ?_
        refine lv_iconst (v := 0) hx hb dX12_bale_55 (by decide) ?_
        refine tM_12_53 hx hb hK hP hD hS (f0 := (fa 12 53)) rfl (i := (iv 12 1)) (x := 0) (vp_in_iff.mpr ⟨by omega, by omega⟩) dX12_bale_56 (fun f6 ef6 H locs hP hD hS => ?_)
        have hf6 : ∀ j, inb (bA 12 53 j) (f6 j) := by rw [ef6]; exact upd_b (b := bA 12 53) (hI.2 12 53) (show inb (0, 8) 0 from ⟨by decide, by decide⟩)
        refine lv_aload_n hx hb dX12_bale_57 rfl (lv_at hl 0 rfl) ?_
        refine lv_dup hx hb dX12_bale_58 rfl ?_
        refine gM_12_1 hx hb ht hown hK hP m_1140 (v := (iv 12 1)) rfl dX12_bale_59 ?_
        refine lv_iconst (v := 1) hx hb dX12_bale_62 (by decide) ?_
        refine lv_iadd hx hb dX12_bale_63 ?_
        refine lv_topi (fun v7 ev7 => ?_)
        have tv7 := z_add ev7 (rfl : ((iv 12 1)).toInt = _) (by decide : (1 : Int32).toInt = 1) (by omega) (by omega)
        refine pM_12_1 (v := v7) hx hb ht hown hK hP hD hS m_1140 dX12_bale_64 (fun H locs hP hD hS => ?_)
        refine lv_aload_n hx hb dX12_bale_67 rfl (lv_at hl 0 rfl) ?_
        refine gM_12_1 hx hb ht hown hK hP m_1140 (v := v7) rfl dX12_bale_68 ?_
        refine lv_iconst (v := 1) hx hb dX12_bale_71 (by decide) ?_
        refine lv_isub hx hb dX12_bale_72 ?_
        refine lv_topi (fun v8 ev8 => ?_)
        have tv8 := z_sub ev8 (rfl : (v7).toInt = _) (by decide : (1 : Int32).toInt = 1) (by omega) (by omega)
        have hP9 : va_P (dC, dI) classes (WM h g ca (u2 iv 12 1 v7) lv (u2 (u2 (u2 fa 12 2 f4) 12 51 f5) 12 53 f6) la) H := hP
        have hD9 : va_D A (WM h g ca (u2 iv 12 1 v7) lv (u2 (u2 (u2 fa 12 2 f4) 12 51 f5) 12 53 f6) la) := hD
        exact W.iret (v := v8) hx hb hr (fun t ht9 hW => ⟨⟨v8, ((u2 iv 12 1 v7), lv, (u2 (u2 (u2 fa 12 2 f4) 12 51 f5) 12 53 f6), la), rfl, ⟨f4, f5, f6, v7, hf5, hf6, (show inb (0, 10) v7 from ⟨by omega, by omega⟩), (show (((v8 : Int32).toInt = -100002 ∧ ¬ (1 ≤ (n).toInt ∧ (n).toInt ≤ 99999) ∧ (v7 : Int32).toInt = (iv 12 1).toInt) ∨ ((v8 : Int32).toInt = -100004 ∧ (1 ≤ (n).toInt ∧ (n).toInt ≤ 99999) ∧ 10 ≤ (iv 12 1).toInt ∧ (v7 : Int32).toInt = (iv 12 1).toInt) ∨ ((1 ≤ (n).toInt ∧ (n).toInt ≤ 99999) ∧ (iv 12 1).toInt < 10 ∧ (v8 : Int32).toInt = (iv 12 1).toInt ∧ (v7 : Int32).toInt = (iv 12 1).toInt + 1)) from by omega), (show (((v8 : Int32).toInt < 0 ∧ ∀ j : Nat, f4 j = (fa 12 2) j) ∨ (0 ≤ (v8 : Int32).toInt ∧ 1 ≤ (n).toInt ∧ (n).toInt ≤ 99999 ∧ (∀ j : Nat, j ≠ ((iv 12 1).toInt).toNat → f4 j = (fa 12 2) j) ∧ f4 ((iv 12 1).toInt).toNat = n)) from Or.inr ⟨by omega, by omega, by omega, (fun j hj => by rw [ef4, upd_ne (show j ≠ ((iv 12 1) : Int32).toNatClampNeg from hj)]), (by rw [ef4]; exact upd_eq)⟩), ⟨by omega, by omega⟩, rfl⟩, by rw [ht9]; exact hP9, hD9⟩, hS.F ht9⟩) hS.2.2 dX12_bale_73
      · have fc3 := z_eq (rfl : ((iv 12 1)).toInt = _) (by decide : (10 : Int32).toInt = 10) c3
        refine lv_ldc hx hb hown (ht _ m_1380) dX12_bale_24 ?_
        have : ((-100004) : Int32).toInt = (-100004) := (by decide)
        have hP9 : va_P (dC, dI) classes (WM h g ca (u2 iv 12 1 (iv 12 1)) lv (u2 (u2 (u2 fa 12 2 (fa 12 2)) 12 51 (fa 12 51)) 12 53 (fa 12 53)) la) s.heap := hP
        have hD9 : va_D A (WM h g ca (u2 iv 12 1 (iv 12 1)) lv (u2 (u2 (u2 fa 12 2 (fa 12 2)) 12 51 (fa 12 51)) 12 53 (fa 12 53)) la) := hD
        exact W.iret (v := (-100004)) hx hb hr (fun t ht9 hW => ⟨⟨(-100004), ((u2 iv 12 1 (iv 12 1)), lv, (u2 (u2 (u2 fa 12 2 (fa 12 2)) 12 51 (fa 12 51)) 12 53 (fa 12 53)), la), rfl, ⟨(fa 12 2), (fa 12 51), (fa 12 53), (iv 12 1), (hI.2 12 51), (hI.2 12 53), (hI.1 12 1), (show ((((-100004) : Int32).toInt = -100002 ∧ ¬ (1 ≤ (n).toInt ∧ (n).toInt ≤ 99999) ∧ ((iv 12 1) : Int32).toInt = (iv 12 1).toInt) ∨ (((-100004) : Int32).toInt = -100004 ∧ (1 ≤ (n).toInt ∧ (n).toInt ≤ 99999) ∧ 10 ≤ (iv 12 1).toInt ∧ ((iv 12 1) : Int32).toInt = (iv 12 1).toInt) ∨ ((1 ≤ (n).toInt ∧ (n).toInt ≤ 99999) ∧ (iv 12 1).toInt < 10 ∧ ((-100004) : Int32).toInt = (iv 12 1).toInt ∧ ((iv 12 1) : Int32).toInt = (iv 12 1).toInt + 1)) from by omega), (show ((((-100004) : Int32).toInt < 0 ∧ ∀ j : Nat, (fa 12 2) j = (fa 12 2) j) ∨ (0 ≤ ((-100004) : Int32).toInt ∧ 1 ≤ (n).toInt ∧ (n).toInt ≤ 99999 ∧ (∀ j : Nat, j ≠ ((iv 12 1).toInt).toNat → (fa 12 2) j = (fa 12 2) j) ∧ (fa 12 2) ((iv 12 1).toInt).toNat = n)) from Or.inl ⟨by omega, fun j => rfl⟩), ⟨by decide, by decide⟩, rfl⟩, by rw [ht9]; exact hP9, hD9⟩, hS.F ht9⟩) hS.2.2 dX12_bale_26
    · exact absurd c2 (by decide)
  · skip
    refine lv_if_ne (tgt := 15) hx hb dX12_bale_9 (by decide) (fun c9 => ?_) (fun c9 => ?_)
    · exact absurd rfl c9
    · skip
      refine lv_ldc hx hb hown (ht _ m_1373) dX12_bale_12 ?_
      have : ((-100002) : Int32).toInt = (-100002) := (by decide)
      have i_12_1 : 0 ≤ (iv 12 1).toInt ∧ (iv 12 1).toInt ≤ 10 := hI.1 12 1
      have hP9 : va_P (dC, dI) classes (WM h g ca (u2 iv 12 1 (iv 12 1)) lv (u2 (u2 (u2 fa 12 2 (fa 12 2)) 12 51 (fa 12 51)) 12 53 (fa 12 53)) la) s.heap := hP
      have hD9 : va_D A (WM h g ca (u2 iv 12 1 (iv 12 1)) lv (u2 (u2 (u2 fa 12 2 (fa 12 2)) 12 51 (fa 12 51)) 12 53 (fa 12 53)) la) := hD
      exact W.iret (v := (-100002)) hx hb hr (fun t ht9 hW => ⟨⟨(-100002), ((u2 iv 12 1 (iv 12 1)), lv, (u2 (u2 (u2 fa 12 2 (fa 12 2)) 12 51 (fa 12 51)) 12 53 (fa 12 53)), la), rfl, ⟨(fa 12 2), (fa 12 51), (fa 12 53), (iv 12 1), (hI.2 12 51), (hI.2 12 53), (hI.1 12 1), (show ((((-100002) : Int32).toInt = -100002 ∧ ¬ (1 ≤ (n).toInt ∧ (n).toInt ≤ 99999) ∧ ((iv 12 1) : Int32).toInt = (iv 12 1).toInt) ∨ (((-100002) : Int32).toInt = -100004 ∧ (1 ≤ (n).toInt ∧ (n).toInt ≤ 99999) ∧ 10 ≤ (iv 12 1).toInt ∧ ((iv 12 1) : Int32).toInt = (iv 12 1).toInt) ∨ ((1 ≤ (n).toInt ∧ (n).toInt ≤ 99999) ∧ (iv 12 1).toInt < 10 ∧ ((-100002) : Int32).toInt = (iv 12 1).toInt ∧ ((iv 12 1) : Int32).toInt = (iv 12 1).toInt + 1)) from by omega), (show ((((-100002) : Int32).toInt < 0 ∧ ∀ j : Nat, (fa 12 2) j = (fa 12 2) j) ∨ (0 ≤ ((-100002) : Int32).toInt ∧ 1 ≤ (n).toInt ∧ (n).toInt ≤ 99999 ∧ (∀ j : Nat, j ≠ ((iv 12 1).toInt).toNat → (fa 12 2) j = (fa 12 2) j) ∧ (fa 12 2) ((iv 12 1).toInt).toNat = n)) from Or.inl ⟨by omega, fun j => rfl⟩), ⟨by decide, by decide⟩, rfl⟩, by rw [ht9]; exact hP9, hD9⟩, hS.F ht9⟩) hS.2.2 dX12_bale_14
/-! ===== sk1 ===== -/
set_option maxHeartbeats 4000000 in
set_option maxRecDepth 100000 in
/-- X10_get -/
theorem c_X10_get_x (l : Launch) (dC : Nat → ClassId) (dI : Nat → Nat → Nat) (h : Nat) (g : Nat → Nat → Nat) (ca : Nat → Nat → ClassId) (iv : Nat → Nat → Int32) (lv : Nat → Nat → Int64) (fa : Nat → Nat → Nat → Int32) (la : Nat → Nat → Nat → Int64) (hI : IX iv fa) (a : Int32) (b : Int32) (h_a : 0 ≤ a.toInt ∧ a.toInt ≤ 59) (h_b : 0 ≤ b.toInt ∧ b.toInt ≤ 8) : Met l yX10_get (wc yX10_get cX10_get 3 (some .int)) ({ frames := 0, cells := 0, slots := 0, locals := 0 } : Room) (pR (dC, dI) classes (WX h g ca iv lv fa la) (TX ca) [.ref (g 11 0), .int a, .int b]) (vp_Si (fun r => (True) ∧ (r.toInt = ((fa 10 0) (9 * (a.toInt).toNat + (b.toInt).toNat)).toInt))) 0 0 (fun _ => False) := by
  refine Met.ofW (cc := cX10_get) (maxL := 3) (ret := (some .int)) (by decide) rfl ?_
  intro p e s m args below meth c s₁ B hml hv
  obtain ⟨rfl, hP, hK⟩ := hv
  have hx := B.exec
  have hb := B.bytes
  have hr := B.returns
  have ht := tb_tl (atoms_spec (ws := wc yX10_get cX10_get 3 (some .int)) B.pre)
  have hown : s.vm.findClass RX10 = some m.cls := findClass_of_methodNamed B.named
  have hlocks := B.notSynchronized
  have hl := lv_entry [.ref (g 11 0), .int a, .int b] (n := 3) (Nat.le_of_ble_eq_true rfl)
  rw [lg_entry_eq]
  generalize (lg_sl [.ref (g 11 0), .int a, .int b] ++ List.replicate (3 - (lg_sl [.ref (g 11 0), .int a, .int b]).length) Slot.unset).toArray = ls at hl ⊢
  have hl : lv_has ls 3 [(0, .ref (g 11 0)), (1, .int a), (2, .int b)] := hl
  refine lv_aload_n hx hb dX10_get_0 rfl (lv_at hl 0 rfl) ?_
  refine gX_10_0 hx hb ht hown hK hP m_111 dX10_get_1 ?_
  refine lv_iload_n hx hb dX10_get_4 rfl (lv_at hl 1 rfl) ?_
  refine lv_bipush (v := 9) hx hb dX10_get_5 (by decide) ?_
  refine lv_imul hx hb dX10_get_7 ?_
  refine lv_topi (fun v1 ev1 => ?_)
  have tv1 := z_mul ev1 (rfl : (a).toInt = _) (by decide : (9 : Int32).toInt = 9) (by omega) (by omega)
  refine lv_iload_n hx hb dX10_get_8 rfl (lv_at hl 2 rfl) ?_
  refine lv_iadd hx hb dX10_get_9 ?_
  refine lv_topi (fun v2 ev2 => ?_)
  have tv2 := z_add ev2 (rfl : (v1).toInt = _) (rfl : (b).toInt = _) (by omega) (by omega)
  refine lX_10_0 hx hb hK hP (f := (fa 10 0)) rfl (vp_in_iff.mpr ⟨by omega, by omega⟩) dX10_get_10 ?_
  refine lv_topi (fun v3 ev3 => ?_)
  exact W.iret (v := v3) hx hb hr (fun t ht9 hW => ⟨v3, rfl, ⟨trivial, (show (v3 : Int32).toInt = ((fa 10 0) (9 * ((a).toInt).toNat + ((b).toInt).toNat)).toInt from (by have h1 := congrArg Int32.toInt ev3; have h2 : (v2 : Int32).toNatClampNeg = 9 * (a.toInt).toNat + (b.toInt).toNat := (by show (v2 : Int32).toInt.toNat = _; omega); rw [h2] at h1; exact h1))⟩, ht9⟩) (fun q hq => by cases hq) dX10_get_11
set_option maxHeartbeats 4000000 in
set_option maxRecDepth 100000 in
/-- X10_get -/
theorem c_X10_get_x0 (l : Launch) (dC : Nat → ClassId) (dI : Nat → Nat → Nat) (h : Nat) (g : Nat → Nat → Nat) (ca : Nat → Nat → ClassId) (iv : Nat → Nat → Int32) (lv : Nat → Nat → Int64) (fa : Nat → Nat → Nat → Int32) (la : Nat → Nat → Nat → Int64) (hI : IX iv fa) (a : Int32) (h_a : 0 ≤ a.toInt ∧ a.toInt ≤ 59) : Met l yX10_get (wc yX10_get cX10_get 3 (some .int)) ({ frames := 0, cells := 0, slots := 0, locals := 0 } : Room) (pR (dC, dI) classes (WX h g ca iv lv fa la) (TX ca) [.ref (g 11 0), .int a, .int 0]) (vp_Si (fun r => (True) ∧ (r.toInt = ((fa 10 0) (9 * (a.toInt).toNat + 0)).toInt))) 0 0 (fun _ => False) := by
  refine Met.ofW (cc := cX10_get) (maxL := 3) (ret := (some .int)) (by decide) rfl ?_
  intro p e s m args below meth c s₁ B hml hv
  obtain ⟨rfl, hP, hK⟩ := hv
  have hx := B.exec
  have hb := B.bytes
  have hr := B.returns
  have ht := tb_tl (atoms_spec (ws := wc yX10_get cX10_get 3 (some .int)) B.pre)
  have hown : s.vm.findClass RX10 = some m.cls := findClass_of_methodNamed B.named
  have hlocks := B.notSynchronized
  have hl := lv_entry [.ref (g 11 0), .int a, .int 0] (n := 3) (Nat.le_of_ble_eq_true rfl)
  rw [lg_entry_eq]
  generalize (lg_sl [.ref (g 11 0), .int a, .int 0] ++ List.replicate (3 - (lg_sl [.ref (g 11 0), .int a, .int 0]).length) Slot.unset).toArray = ls at hl ⊢
  have hl : lv_has ls 3 [(0, .ref (g 11 0)), (1, .int a), (2, .int 0)] := hl
  refine lv_aload_n hx hb dX10_get_0 rfl (lv_at hl 0 rfl) ?_
  refine gX_10_0 hx hb ht hown hK hP m_111 dX10_get_1 ?_
  refine lv_iload_n hx hb dX10_get_4 rfl (lv_at hl 1 rfl) ?_
  refine lv_bipush (v := 9) hx hb dX10_get_5 (by decide) ?_
  refine lv_imul hx hb dX10_get_7 ?_
  refine lv_topi (fun v1 ev1 => ?_)
  have tv1 := z_mul ev1 (rfl : (a).toInt = _) (by decide : (9 : Int32).toInt = 9) (by omega) (by omega)
  refine lv_iload_n hx hb dX10_get_8 rfl (lv_at hl 2 rfl) ?_
  refine lv_iadd hx hb dX10_get_9 ?_
  refine lv_topi (fun v2 ev2 => ?_)
  have tv2 := z_add ev2 (rfl : (v1).toInt = _) (by decide : (0 : Int32).toInt = 0) (by omega) (by omega)
  refine lX_10_0 hx hb hK hP (f := (fa 10 0)) rfl (vp_in_iff.mpr ⟨by omega, by omega⟩) dX10_get_10 ?_
  refine lv_topi (fun v3 ev3 => ?_)
  exact W.iret (v := v3) hx hb hr (fun t ht9 hW => ⟨v3, rfl, ⟨trivial, (show (v3 : Int32).toInt = ((fa 10 0) (9 * ((a).toInt).toNat + 0)).toInt from (by have h1 := congrArg Int32.toInt ev3; have h2 : (v2 : Int32).toNatClampNeg = 9 * (a.toInt).toNat + 0 := (by show (v2 : Int32).toInt.toNat = _; omega); rw [h2] at h1; exact h1))⟩, ht9⟩) (fun q hq => by cases hq) dX10_get_11
set_option maxHeartbeats 4000000 in
set_option maxRecDepth 100000 in
/-- X10_get -/
theorem c_X10_get_x1 (l : Launch) (dC : Nat → ClassId) (dI : Nat → Nat → Nat) (h : Nat) (g : Nat → Nat → Nat) (ca : Nat → Nat → ClassId) (iv : Nat → Nat → Int32) (lv : Nat → Nat → Int64) (fa : Nat → Nat → Nat → Int32) (la : Nat → Nat → Nat → Int64) (hI : IX iv fa) (a : Int32) (h_a : 0 ≤ a.toInt ∧ a.toInt ≤ 59) : Met l yX10_get (wc yX10_get cX10_get 3 (some .int)) ({ frames := 0, cells := 0, slots := 0, locals := 0 } : Room) (pR (dC, dI) classes (WX h g ca iv lv fa la) (TX ca) [.ref (g 11 0), .int a, .int 1]) (vp_Si (fun r => (0 ≤ r.toInt ∧ r.toInt ≤ 2) ∧ (r.toInt = ((fa 10 0) (9 * (a.toInt).toNat + 1)).toInt))) 0 0 (fun _ => False) := by
  refine Met.ofW (cc := cX10_get) (maxL := 3) (ret := (some .int)) (by decide) rfl ?_
  intro p e s m args below meth c s₁ B hml hv
  obtain ⟨rfl, hP, hK⟩ := hv
  have hx := B.exec
  have hb := B.bytes
  have hr := B.returns
  have ht := tb_tl (atoms_spec (ws := wc yX10_get cX10_get 3 (some .int)) B.pre)
  have hown : s.vm.findClass RX10 = some m.cls := findClass_of_methodNamed B.named
  have hlocks := B.notSynchronized
  have hl := lv_entry [.ref (g 11 0), .int a, .int 1] (n := 3) (Nat.le_of_ble_eq_true rfl)
  rw [lg_entry_eq]
  generalize (lg_sl [.ref (g 11 0), .int a, .int 1] ++ List.replicate (3 - (lg_sl [.ref (g 11 0), .int a, .int 1]).length) Slot.unset).toArray = ls at hl ⊢
  have hl : lv_has ls 3 [(0, .ref (g 11 0)), (1, .int a), (2, .int 1)] := hl
  refine lv_aload_n hx hb dX10_get_0 rfl (lv_at hl 0 rfl) ?_
  refine gX_10_0 hx hb ht hown hK hP m_111 dX10_get_1 ?_
  refine lv_iload_n hx hb dX10_get_4 rfl (lv_at hl 1 rfl) ?_
  refine lv_bipush (v := 9) hx hb dX10_get_5 (by decide) ?_
  refine lv_imul hx hb dX10_get_7 ?_
  refine lv_topi (fun v1 ev1 => ?_)
  have tv1 := z_mul ev1 (rfl : (a).toInt = _) (by decide : (9 : Int32).toInt = 9) (by omega) (by omega)
  refine lv_iload_n hx hb dX10_get_8 rfl (lv_at hl 2 rfl) ?_
  refine lv_iadd hx hb dX10_get_9 ?_
  refine lv_topi (fun v2 ev2 => ?_)
  have tv2 := z_add ev2 (rfl : (v1).toInt = _) (by decide : (1 : Int32).toInt = 1) (by omega) (by omega)
  refine lX_10_0 hx hb hK hP (f := (fa 10 0)) rfl (vp_in_iff.mpr ⟨by omega, by omega⟩) dX10_get_10 ?_
  refine lv_topi (fun v3 ev3 => ?_)
  have tv3 : 0 ≤ v3.toInt ∧ v3.toInt ≤ 2 := by rw [ev3]; exact row_r (hI.2 10 0 _) (row_i (a := a.toInt) (c := 1) (by omega) (by omega) (by omega))
  exact W.iret (v := v3) hx hb hr (fun t ht9 hW => ⟨v3, rfl, ⟨⟨by omega, by omega⟩, (show (v3 : Int32).toInt = ((fa 10 0) (9 * ((a).toInt).toNat + 1)).toInt from (by have h1 := congrArg Int32.toInt ev3; have h2 : (v2 : Int32).toNatClampNeg = 9 * (a.toInt).toNat + 1 := (by show (v2 : Int32).toInt.toNat = _; omega); rw [h2] at h1; exact h1))⟩, ht9⟩) (fun q hq => by cases hq) dX10_get_11
set_option maxHeartbeats 4000000 in
set_option maxRecDepth 100000 in
/-- X10_get -/
theorem c_X10_get_x8 (l : Launch) (dC : Nat → ClassId) (dI : Nat → Nat → Nat) (h : Nat) (g : Nat → Nat → Nat) (ca : Nat → Nat → ClassId) (iv : Nat → Nat → Int32) (lv : Nat → Nat → Int64) (fa : Nat → Nat → Nat → Int32) (la : Nat → Nat → Nat → Int64) (hI : IX iv fa) (a : Int32) (h_a : 0 ≤ a.toInt ∧ a.toInt ≤ 59) : Met l yX10_get (wc yX10_get cX10_get 3 (some .int)) ({ frames := 0, cells := 0, slots := 0, locals := 0 } : Room) (pR (dC, dI) classes (WX h g ca iv lv fa la) (TX ca) [.ref (g 11 0), .int a, .int 8]) (vp_Si (fun r => (True) ∧ (r.toInt = ((fa 10 0) (9 * (a.toInt).toNat + 8)).toInt))) 0 0 (fun _ => False) := by
  refine Met.ofW (cc := cX10_get) (maxL := 3) (ret := (some .int)) (by decide) rfl ?_
  intro p e s m args below meth c s₁ B hml hv
  obtain ⟨rfl, hP, hK⟩ := hv
  have hx := B.exec
  have hb := B.bytes
  have hr := B.returns
  have ht := tb_tl (atoms_spec (ws := wc yX10_get cX10_get 3 (some .int)) B.pre)
  have hown : s.vm.findClass RX10 = some m.cls := findClass_of_methodNamed B.named
  have hlocks := B.notSynchronized
  have hl := lv_entry [.ref (g 11 0), .int a, .int 8] (n := 3) (Nat.le_of_ble_eq_true rfl)
  rw [lg_entry_eq]
  generalize (lg_sl [.ref (g 11 0), .int a, .int 8] ++ List.replicate (3 - (lg_sl [.ref (g 11 0), .int a, .int 8]).length) Slot.unset).toArray = ls at hl ⊢
  have hl : lv_has ls 3 [(0, .ref (g 11 0)), (1, .int a), (2, .int 8)] := hl
  refine lv_aload_n hx hb dX10_get_0 rfl (lv_at hl 0 rfl) ?_
  refine gX_10_0 hx hb ht hown hK hP m_111 dX10_get_1 ?_
  refine lv_iload_n hx hb dX10_get_4 rfl (lv_at hl 1 rfl) ?_
  refine lv_bipush (v := 9) hx hb dX10_get_5 (by decide) ?_
  refine lv_imul hx hb dX10_get_7 ?_
  refine lv_topi (fun v1 ev1 => ?_)
  have tv1 := z_mul ev1 (rfl : (a).toInt = _) (by decide : (9 : Int32).toInt = 9) (by omega) (by omega)
  refine lv_iload_n hx hb dX10_get_8 rfl (lv_at hl 2 rfl) ?_
  refine lv_iadd hx hb dX10_get_9 ?_
  refine lv_topi (fun v2 ev2 => ?_)
  have tv2 := z_add ev2 (rfl : (v1).toInt = _) (by decide : (8 : Int32).toInt = 8) (by omega) (by omega)
  refine lX_10_0 hx hb hK hP (f := (fa 10 0)) rfl (vp_in_iff.mpr ⟨by omega, by omega⟩) dX10_get_10 ?_
  refine lv_topi (fun v3 ev3 => ?_)
  exact W.iret (v := v3) hx hb hr (fun t ht9 hW => ⟨v3, rfl, ⟨trivial, (show (v3 : Int32).toInt = ((fa 10 0) (9 * ((a).toInt).toNat + 8)).toInt from (by have h1 := congrArg Int32.toInt ev3; have h2 : (v2 : Int32).toNatClampNeg = 9 * (a.toInt).toNat + 8 := (by show (v2 : Int32).toInt.toNat = _; omega); rw [h2] at h1; exact h1))⟩, ht9⟩) (fun q hq => by cases hq) dX10_get_11
set_option maxHeartbeats 4000000 in
set_option maxRecDepth 100000 in
/-- X10_isOf -/
theorem c_X10_isOf_x (l : Launch) (dC : Nat → ClassId) (dI : Nat → Nat → Nat) (h : Nat) (g : Nat → Nat → Nat) (ca : Nat → Nat → ClassId) (iv : Nat → Nat → Int32) (lv : Nat → Nat → Int64) (fa : Nat → Nat → Nat → Int32) (la : Nat → Nat → Nat → Int64) (hI : IX iv fa) (a : Int32) (b : Int32) (d : Int32) (h_a : 0 ≤ a.toInt ∧ a.toInt ≤ 59) : Met l yX10_isOf (wc yX10_isOf cX10_isOf 4 (some .boolean)) ({ frames := 1, cells := 0, slots := 0, locals := 22 } : Room) (pR (dC, dI) classes (WX h g ca iv lv fa la) (TX ca) [.ref (g 11 0), .int a, .int b, .int d]) (vp_Si (fun r => (0 ≤ r.toInt ∧ r.toInt ≤ 1) ∧ (((r.toInt = 1 ∧ ((fa 10 0) (9 * (a.toInt).toNat + 0)).toInt = b.toInt ∧ ((fa 10 0) (9 * (a.toInt).toNat + 1)).toInt = d.toInt) ∨ (r.toInt = 0 ∧ ¬ (((fa 10 0) (9 * (a.toInt).toNat + 0)).toInt = b.toInt ∧ ((fa 10 0) (9 * (a.toInt).toNat + 1)).toInt = d.toInt)))))) 0 0 (fun _ => False) := by
  refine Met.ofW (cc := cX10_isOf) (maxL := 4) (ret := (some .boolean)) (by decide) rfl ?_
  intro p e s m args below meth c s₁ B hml hv
  obtain ⟨rfl, hP, hK⟩ := hv
  have hx := B.exec
  have hb := B.bytes
  have hr := B.returns
  have ht := tb_tl (atoms_spec (ws := wc yX10_isOf cX10_isOf 4 (some .boolean)) B.pre)
  have hown : s.vm.findClass RX10 = some m.cls := findClass_of_methodNamed B.named
  have hlocks := B.notSynchronized
  have hl := lv_entry [.ref (g 11 0), .int a, .int b, .int d] (n := 4) (Nat.le_of_ble_eq_true rfl)
  rw [lg_entry_eq]
  generalize (lg_sl [.ref (g 11 0), .int a, .int b, .int d] ++ List.replicate (4 - (lg_sl [.ref (g 11 0), .int a, .int b, .int d]).length) Slot.unset).toArray = ls at hl ⊢
  have hl : lv_has ls 4 [(0, .ref (g 11 0)), (1, .int a), (2, .int b), (3, .int d)] := hl
  refine lv_aload_n hx hb dX10_isOf_0 rfl (lv_at hl 0 rfl) ?_
  refine lv_iload_n hx hb dX10_isOf_1 rfl (lv_at hl 1 rfl) ?_
  refine lv_iconst (v := 0) hx hb dX10_isOf_2 (by decide) ?_
  refine vp_callSi (W.runV (As := [.int a, .int 0]) (rest := []) ⟨hx, hb, hml, hown, ht⟩ (c_X10_get_x0 l dC dI h g ca iv lv fa la hI a ⟨by omega, by omega⟩) (kV 2 ht m_485 m_486 m_487 m_78 m_488 rfl rfl hd_X10_get_v ⟨Nat.le_of_ble_eq_true rfl, Nat.le_of_ble_eq_true rfl⟩) (vR hP hK (rX_10 hK hP)) rfl rfl hl.1 rfl (lv_room (Nat.le_of_ble_eq_true rfl)) dX10_isOf_3 ⟨Nat.le_of_ble_eq_true rfl, Nat.le_of_ble_eq_true rfl⟩) (fun r1 hr1 => ?_)
  obtain ⟨hr1, xr1_0⟩ := hr1
  have xr1_0 : (r1 : Int32).toInt = ((fa 10 0) (9 * ((a : Int32).toInt).toNat + 0)).toInt := xr1_0
  refine lv_iload_n hx hb dX10_isOf_6 rfl (lv_at hl 2 rfl) ?_
  refine lv_icmp_ne (tgt := 24) hx hb dX10_isOf_7 (by decide) (fun c2 => ?_) (fun c2 => ?_)
  · have fc2 := z_ne (rfl : (r1).toInt = _) (rfl : (b).toInt = _) c2
    refine lv_iconst (v := 0) hx hb dX10_isOf_24 (by decide) ?_
    have : (0 : Int32).toInt = 0 := (by decide)
    exact W.zret (v := 0) hx hb hr rfl (fun t ht9 hW => ⟨0, rfl, ⟨⟨by decide, by decide⟩, (show (((0 : Int32).toInt = 1 ∧ ((fa 10 0) (9 * ((a).toInt).toNat + 0)).toInt = (b).toInt ∧ ((fa 10 0) (9 * ((a).toInt).toNat + 1)).toInt = (d).toInt) ∨ ((0 : Int32).toInt = 0 ∧ ¬ (((fa 10 0) (9 * ((a).toInt).toNat + 0)).toInt = (b).toInt ∧ ((fa 10 0) (9 * ((a).toInt).toNat + 1)).toInt = (d).toInt))) from by omega)⟩, ht9⟩) (fun q hq => by cases hq) dX10_isOf_25
  · have fc2 := z_eq (rfl : (r1).toInt = _) (rfl : (b).toInt = _) c2
    refine lv_aload_n hx hb dX10_isOf_10 rfl (lv_at hl 0 rfl) ?_
    refine lv_iload_n hx hb dX10_isOf_11 rfl (lv_at hl 1 rfl) ?_
    refine lv_iconst (v := 1) hx hb dX10_isOf_12 (by decide) ?_
    refine vp_callSi (W.runV (As := [.int a, .int 1]) (rest := []) ⟨hx, hb, hml, hown, ht⟩ (c_X10_get_x1 l dC dI h g ca iv lv fa la hI a ⟨by omega, by omega⟩) (kV 2 ht m_485 m_486 m_487 m_78 m_488 rfl rfl hd_X10_get_v ⟨Nat.le_of_ble_eq_true rfl, Nat.le_of_ble_eq_true rfl⟩) (vR hP hK (rX_10 hK hP)) rfl rfl hl.1 rfl (lv_room (Nat.le_of_ble_eq_true rfl)) dX10_isOf_13 ⟨Nat.le_of_ble_eq_true rfl, Nat.le_of_ble_eq_true rfl⟩) (fun r3 hr3 => ?_)
    obtain ⟨hr3, xr3_0⟩ := hr3
    have xr3_0 : (r3 : Int32).toInt = ((fa 10 0) (9 * ((a : Int32).toInt).toNat + 1)).toInt := xr3_0
    refine lv_iload_n hx hb dX10_isOf_16 rfl (lv_at hl 3 rfl) ?_
    refine lv_icmp_ne (tgt := 24) hx hb dX10_isOf_17 (by decide) (fun c4 => ?_) (fun c4 => ?_)
    · have fc4 := z_ne (rfl : (r3).toInt = _) (rfl : (d).toInt = _) c4
      refine lv_iconst (v := 0) hx hb dX10_isOf_24 (by decide) ?_
      have : (0 : Int32).toInt = 0 := (by decide)
      exact W.zret (v := 0) hx hb hr rfl (fun t ht9 hW => ⟨0, rfl, ⟨⟨by decide, by decide⟩, (show (((0 : Int32).toInt = 1 ∧ ((fa 10 0) (9 * ((a).toInt).toNat + 0)).toInt = (b).toInt ∧ ((fa 10 0) (9 * ((a).toInt).toNat + 1)).toInt = (d).toInt) ∨ ((0 : Int32).toInt = 0 ∧ ¬ (((fa 10 0) (9 * ((a).toInt).toNat + 0)).toInt = (b).toInt ∧ ((fa 10 0) (9 * ((a).toInt).toNat + 1)).toInt = (d).toInt))) from by omega)⟩, ht9⟩) (fun q hq => by cases hq) dX10_isOf_25
    · have fc4 := z_eq (rfl : (r3).toInt = _) (rfl : (d).toInt = _) c4
      refine lv_iconst (v := 1) hx hb dX10_isOf_20 (by decide) ?_
      refine lv_goto (tgt := 25) hx hb dX10_isOf_21 (by decide) ?_
      have : (1 : Int32).toInt = 1 := (by decide)
      exact W.zret (v := 1) hx hb hr rfl (fun t ht9 hW => ⟨1, rfl, ⟨⟨by decide, by decide⟩, (show (((1 : Int32).toInt = 1 ∧ ((fa 10 0) (9 * ((a).toInt).toNat + 0)).toInt = (b).toInt ∧ ((fa 10 0) (9 * ((a).toInt).toNat + 1)).toInt = (d).toInt) ∨ ((1 : Int32).toInt = 0 ∧ ¬ (((fa 10 0) (9 * ((a).toInt).toNat + 0)).toInt = (b).toInt ∧ ((fa 10 0) (9 * ((a).toInt).toNat + 1)).toInt = (d).toInt))) from by omega)⟩, ht9⟩) (fun q hq => by cases hq) dX10_isOf_25
set_option maxHeartbeats 4000000 in
set_option maxRecDepth 100000 in
/-- X10_drawn -/
theorem c_X10_drawn_x (l : Launch) (dC : Nat → ClassId) (dI : Nat → Nat → Nat) (h : Nat) (g : Nat → Nat → Nat) (ca : Nat → Nat → ClassId) (iv : Nat → Nat → Int32) (lv : Nat → Nat → Int64) (fa : Nat → Nat → Nat → Int32) (la : Nat → Nat → Nat → Int64) (hI : IX iv fa) (a : Int32) (b : Int32) : Met l yX10_drawn (wc yX10_drawn cX10_drawn 5 (some .int)) ({ frames := 2, cells := 0, slots := 0, locals := 45 } : Room) (pR (dC, dI) classes (WX h g ca iv lv fa la) (TX ca) [.ref (g 11 0), .int a, .int b]) (vp_Si (fun r => (0 ≤ r.toInt ∧ r.toInt ≤ 79) ∧ (r.toInt = ((cn0 (fun s => (fa 10 0) (9 * s + 0)) (fun s => (fa 10 0) (9 * s + 1)) a b ((iv 10 1).toInt).toNat : Nat) : Int)))) 0 0 (fun _ => False) := by
  refine Met.ofW (cc := cX10_drawn) (maxL := 5) (ret := (some .int)) (by decide) rfl ?_
  intro p e s m args below meth c s₁ B hml hv
  obtain ⟨rfl, hP, hK⟩ := hv
  have hx := B.exec
  have hb := B.bytes
  have hr := B.returns
  have ht := tb_tl (atoms_spec (ws := wc yX10_drawn cX10_drawn 5 (some .int)) B.pre)
  have hown : s.vm.findClass RX10 = some m.cls := findClass_of_methodNamed B.named
  have hlocks := B.notSynchronized
  have hl := lv_entry [.ref (g 11 0), .int a, .int b] (n := 5) (Nat.le_of_ble_eq_true rfl)
  rw [lg_entry_eq]
  generalize (lg_sl [.ref (g 11 0), .int a, .int b] ++ List.replicate (5 - (lg_sl [.ref (g 11 0), .int a, .int b]).length) Slot.unset).toArray = ls at hl ⊢
  have hl : lv_has ls 5 [(0, .ref (g 11 0)), (1, .int a), (2, .int b)] := hl
  refine lv_iconst (v := 0) hx hb dX10_drawn_0 (by decide) ?_
  refine lv_istore_n (lv' := [(3, .int 0), (0, .ref (g 11 0)), (1, .int a), (2, .int b)]) hx hb dX10_drawn_1 rfl hl (by decide) rfl (fun ls hl => ?_)
  refine lv_iconst (v := 0) hx hb dX10_drawn_2 (by decide) ?_
  refine lv_istore (lv' := [(4, .int 0), (3, .int 0), (0, .ref (g 11 0)), (1, .int a), (2, .int b)]) hx hb dX10_drawn_3 hl (by decide) rfl (fun ls hl => ?_)
  have i_10_1 : 0 ≤ (iv 10 1).toInt ∧ (iv 10 1).toInt ≤ 60 := hI.1 10 1
  have lp163 : ∀ (nn163 : Nat) (x162_4 : Int32) (x162_3 : Int32), 0 ≤ x162_4.toInt ∧ x162_4.toInt ≤ 60 → 0 ≤ x162_3.toInt ∧ x162_3.toInt ≤ 79 → ((x162_3 : Int32).toInt = ((cn0 (fun s => fa 10 0 (9 * s + 0)) (fun s => fa 10 0 (9 * s + 1)) a b ((x162_4 : Int32).toInt).toNat : Nat) : Int)) → (x162_3 : Int32).toInt ≤ (x162_4 : Int32).toInt → (x162_4 : Int32).toInt ≤ ((iv 10 1) : Int32).toInt → 60 - x162_4.toInt < (nn163 : Int) → ∀ (ls : Array Slot), lv_has ls 5 [(4, .int x162_4), (3, .int x162_3), (0, .ref (g 11 0)), (1, .int a), (2, .int b)] → W p l e ({ frames := 2, cells := 0, slots := 0, locals := 45 } : Room) s m ([.ref (g 11 0), .int a, .int b] : List Value).toArray below meth c s.heap [] 0 0 (MQ below (vp_Si (fun r => (0 ≤ r.toInt ∧ r.toInt ≤ 79) ∧ (r.toInt = ((cn0 (fun s => (fa 10 0) (9 * s + 0)) (fun s => (fa 10 0) (9 * s + 1)) a b ((iv 10 1).toInt).toNat : Nat) : Int)))) ([.ref (g 11 0), .int a, .int b] : List Value).toArray s 0 0 (fun _ => False)) (F0 m 5 ls []) := by
    intro nn163
    induction nn163 with
    | zero => intro x162_4 x162_3 hx162_4 hx162_3 hq163_0 hq163_1 hq163_2 hm163; exfalso; omega
    | succ nn163 ih163 =>
      intro x162_4 x162_3 hx162_4 hx162_3 hq163_0 hq163_1 hq163_2 hm163 ls hl
      refine lv_iload hx hb dX10_drawn_5 (lv_at hl 0 rfl) ?_
      refine lv_aload_n hx hb dX10_drawn_7 rfl (lv_at hl 2 rfl) ?_
      refine gX_10_1 hx hb ht hown hK hP m_112 (v := (iv 10 1)) rfl dX10_drawn_8 ?_
      refine lv_icmp_ge (tgt := 34) hx hb dX10_drawn_11 (by decide) (fun c164 => ?_) (fun c164 => ?_)
      · have fc164 := z_le (rfl : ((iv 10 1)).toInt = _) (rfl : (x162_4).toInt = _) c164
        refine lv_iload_n hx hb dX10_drawn_34 rfl (lv_at hl 1 rfl) ?_
        exact W.iret (v := x162_3) hx hb hr (fun t ht9 hW => ⟨x162_3, rfl, ⟨⟨by omega, by omega⟩, (show (x162_3 : Int32).toInt = ((cn0 (fun s => (fa 10 0) (9 * s + 0)) (fun s => (fa 10 0) (9 * s + 1)) a b (((iv 10 1) : Int32).toInt).toNat : Nat) : Int) from (by have hq9 := hq163_0; have he9 : (x162_4 : Int32).toInt = (iv 10 1).toInt := (by omega); rw [he9] at hq9; exact hq9))⟩, ht9⟩) (fun q hq => by cases hq) dX10_drawn_35
      · have fc164 := z_nle (rfl : ((iv 10 1)).toInt = _) (rfl : (x162_4).toInt = _) c164
        refine lv_aload_n hx hb dX10_drawn_14 rfl (lv_at hl 2 rfl) ?_
        refine lv_iload hx hb dX10_drawn_15 (lv_at hl 0 rfl) ?_
        refine lv_iload_n hx hb dX10_drawn_17 rfl (lv_at hl 3 rfl) ?_
        refine lv_iload_n hx hb dX10_drawn_18 rfl (lv_at hl 4 rfl) ?_
        refine vp_callSi (W.runV (As := [.int x162_4, .int a, .int b]) (rest := []) ⟨hx, hb, hml, hown, ht⟩ (c_X10_isOf_x l dC dI h g ca iv lv fa la hI x162_4 a b ⟨by omega, by omega⟩) (kV 3 ht m_481 m_482 m_483 m_78 m_484 rfl rfl hd_X10_isOf_v ⟨Nat.le_of_ble_eq_true rfl, Nat.le_of_ble_eq_true rfl⟩) (vR hP hK (rX_10 hK hP)) rfl rfl hl.1 rfl (lv_room (Nat.le_of_ble_eq_true rfl)) dX10_drawn_19 ⟨Nat.le_of_ble_eq_true rfl, Nat.le_of_ble_eq_true rfl⟩) (fun r165 hr165 => ?_)
        obtain ⟨hr165, xr165_0⟩ := hr165
        have xr165_0 : (((r165 : Int32).toInt = 1 ∧ ((fa 10 0) (9 * ((x162_4 : Int32).toInt).toNat + 0)).toInt = (a : Int32).toInt ∧ ((fa 10 0) (9 * ((x162_4 : Int32).toInt).toNat + 1)).toInt = (b : Int32).toInt) ∨ ((r165 : Int32).toInt = 0 ∧ ¬ (((fa 10 0) (9 * ((x162_4 : Int32).toInt).toNat + 0)).toInt = (a : Int32).toInt ∧ ((fa 10 0) (9 * ((x162_4 : Int32).toInt).toNat + 1)).toInt = (b : Int32).toInt))) := xr165_0
        refine lv_if_eq (tgt := 28) hx hb dX10_drawn_22 (by decide) (fun c166 => ?_) (fun c166 => ?_)
        · have fc166 := z_eq (rfl : (r165).toInt = _) (by decide : (0 : Int32).toInt = 0) c166
          obtain ⟨v167, ev167⟩ : ∃ y : Int32, y = x162_4 + 1 := ⟨_, rfl⟩
          have tv167 := z_add ev167 rfl (by decide : (1 : Int32).toInt = 1) (by omega) (by omega)
          refine lv_iinc (v := v167) (lv' := [(4, .int v167), (3, .int x162_3), (0, .ref (g 11 0)), (1, .int a), (2, .int b)]) hx hb dX10_drawn_28 hl (k := 0) rfl (by rw [ev167]; rfl) (by decide) rfl (fun ls hl => ?_)
          refine lv_goto (tgt := 5) hx hb dX10_drawn_31 (by decide) ?_
          exact ih163 v167 x162_3 ⟨by omega, by omega⟩ ⟨by omega, by omega⟩ (show (x162_3 : Int32).toInt = ((cn0 (fun s => fa 10 0 (9 * s + 0)) (fun s => fa 10 0 (9 * s + 1)) a b ((v167 : Int32).toInt).toNat : Nat) : Int) from (by have hc := cn0_step (ob := fun s => fa 10 0 (9 * s + 0)) (ol := fun s => fa 10 0 (9 * s + 1)) (b := a) (l := b) (s := x162_4) (s' := v167) (x := fa 10 0 (9 * (x162_4 : Int32).toInt.toNat + 0)) (y := fa 10 0 (9 * (x162_4 : Int32).toInt.toNat + 1)) (by omega) (by omega) rfl rfl; have hq9 := hq163_0; rw [hc]; split <;> omega)) (show (x162_3 : Int32).toInt ≤ (v167 : Int32).toInt from by omega) (show (v167 : Int32).toInt ≤ ((iv 10 1) : Int32).toInt from by omega) (by omega) ls (lv_sub hl [0, 1, 2, 3, 4] rfl)
        · have fc166 := z_ne (rfl : (r165).toInt = _) (by decide : (0 : Int32).toInt = 0) c166
          have : 0 ≤ (x162_3 : Int32).toInt ∧ (x162_3 : Int32).toInt ≤ 60 := ⟨by omega, by omega⟩
          obtain ⟨v168, ev168⟩ : ∃ y : Int32, y = x162_3 + 1 := ⟨_, rfl⟩
          have tv168 := z_add ev168 rfl (by decide : (1 : Int32).toInt = 1) (by omega) (by omega)
          refine lv_iinc (v := v168) (lv' := [(3, .int v168), (4, .int x162_4), (0, .ref (g 11 0)), (1, .int a), (2, .int b)]) hx hb dX10_drawn_25 hl (k := 1) rfl (by rw [ev168]; rfl) (by decide) rfl (fun ls hl => ?_)
          obtain ⟨v169, ev169⟩ : ∃ y : Int32, y = x162_4 + 1 := ⟨_, rfl⟩
          have tv169 := z_add ev169 rfl (by decide : (1 : Int32).toInt = 1) (by omega) (by omega)
          refine lv_iinc (v := v169) (lv' := [(4, .int v169), (3, .int v168), (0, .ref (g 11 0)), (1, .int a), (2, .int b)]) hx hb dX10_drawn_28 hl (k := 1) rfl (by rw [ev169]; rfl) (by decide) rfl (fun ls hl => ?_)
          refine lv_goto (tgt := 5) hx hb dX10_drawn_31 (by decide) ?_
          exact ih163 v169 v168 ⟨by omega, by omega⟩ ⟨by omega, by omega⟩ (show (v168 : Int32).toInt = ((cn0 (fun s => fa 10 0 (9 * s + 0)) (fun s => fa 10 0 (9 * s + 1)) a b ((v169 : Int32).toInt).toNat : Nat) : Int) from (by have hc := cn0_step (ob := fun s => fa 10 0 (9 * s + 0)) (ol := fun s => fa 10 0 (9 * s + 1)) (b := a) (l := b) (s := x162_4) (s' := v169) (x := fa 10 0 (9 * (x162_4 : Int32).toInt.toNat + 0)) (y := fa 10 0 (9 * (x162_4 : Int32).toInt.toNat + 1)) (by omega) (by omega) rfl rfl; have hq9 := hq163_0; rw [hc]; split <;> omega)) (show (v168 : Int32).toInt ≤ (v169 : Int32).toInt from by omega) (show (v169 : Int32).toInt ≤ ((iv 10 1) : Int32).toInt from by omega) (by omega) ls (lv_sub hl [0, 1, 2, 3, 4] rfl)
  have : (0 : Int32).toInt = 0 := (by decide)
  have i_10_1 : 0 ≤ (iv 10 1).toInt ∧ (iv 10 1).toInt ≤ 60 := hI.1 10 1
  exact lp163 61 0 0 ⟨by decide, by decide⟩ ⟨by decide, by decide⟩ (show (0 : Int32).toInt = ((cn0 (fun s => fa 10 0 (9 * s + 0)) (fun s => fa 10 0 (9 * s + 1)) a b ((0 : Int32).toInt).toNat : Nat) : Int) from by show _ = ((0 : Nat) : Int); omega) (show (0 : Int32).toInt ≤ (0 : Int32).toInt from by omega) (show (0 : Int32).toInt ≤ ((iv 10 1) : Int32).toInt from by omega) (by first | decide | omega) ls (lv_sub hl [0, 1, 2, 3, 4] rfl)
set_option maxHeartbeats 4000000 in
set_option maxRecDepth 100000 in
/-- X10_set -/
theorem c_X10_set_x0 (l : Launch) (dC : Nat → ClassId) (dI : Nat → Nat → Nat) (sz : Nat) (h : Nat) (g : Nat → Nat → Nat) (ca : Nat → Nat → ClassId) (iv : Nat → Nat → Int32) (lv : Nat → Nat → Int64) (fa : Nat → Nat → Nat → Int32) (la : Nat → Nat → Nat → Int64) (hI : IX iv fa) (a : Int32) (d : Int32) (h_a : 0 ≤ a.toInt ∧ a.toInt ≤ 59) : Met l yX10_set (wc yX10_set cX10_set 4 none) ({ frames := 0, cells := 0, slots := 0, locals := 0 } : Room) (pW (dC, dI) classes (WX h g ca iv lv fa la) (TX ca) sz [.ref (g 11 0), .int a, .int 0, .int d]) (va_Qv (fun (u : SS) => ∃ (na_10_0 : Nat → Int32), (∀ j, inb (bA 10 0 j) (na_10_0 j)) ∧ (∀ j : Nat, j ≠ (9 * (a.toInt).toNat + 0) → na_10_0 j = (fa 10 0) j) ∧ (na_10_0 (9 * (a.toInt).toNat + 0) = d) ∧ u = (iv, lv, (u2 fa 10 0 na_10_0), la)) (bX (dC, dI) h g ca (va_A (WX h g ca iv lv fa la) sz)) (va_A (WX h g ca iv lv fa la) sz)) 0 0 (va_A (WX h g ca iv lv fa la) sz) := by
  refine Met.ofW (cc := cX10_set) (maxL := 4) (ret := none) (by decide) rfl ?_
  intro p e s m args below meth c s₁ B hml hv
  obtain ⟨rfl, hsz, hP, hK, hD0⟩ := hv
  have hx := B.exec
  have hb := B.bytes
  have hr := B.returns
  have ht := tb_tl (atoms_spec (ws := wc yX10_set cX10_set 4 none) B.pre)
  have hown : s.vm.findClass RX10 = some m.cls := findClass_of_methodNamed B.named
  have hlocks := B.notSynchronized
  subst hsz
  have hD := hD0.self (sz := s.heap.size)
  generalize hAe : va_A (WX h g ca iv lv fa la) s.heap.size = A at hD ⊢
  have hA : ∀ q : Nat, s.heap.size ≤ q → A q := fun q h => by rw [← hAe]; exact Or.inr h
  have hS : va_S A s.heap s.heap [] := va_S.rf
  have hl := lv_entry [.ref (g 11 0), .int a, .int 0, .int d] (n := 4) (Nat.le_of_ble_eq_true rfl)
  rw [lg_entry_eq]
  generalize (lg_sl [.ref (g 11 0), .int a, .int 0, .int d] ++ List.replicate (4 - (lg_sl [.ref (g 11 0), .int a, .int 0, .int d]).length) Slot.unset).toArray = ls at hl ⊢
  have hl : lv_has ls 4 [(0, .ref (g 11 0)), (1, .int a), (2, .int 0), (3, .int d)] := hl
  refine lv_aload_n hx hb dX10_set_0 rfl (lv_at hl 0 rfl) ?_
  refine gX_10_0 hx hb ht hown hK hP m_111 dX10_set_1 ?_
  refine lv_iload_n hx hb dX10_set_4 rfl (lv_at hl 1 rfl) ?_
  refine lv_bipush (v := 9) hx hb dX10_set_5 (by decide) ?_
  refine lv_imul hx hb dX10_set_7 ?_
  refine lv_topi (fun v1 ev1 => ?_)
  have tv1 := z_mul ev1 (rfl : (a).toInt = _) (by decide : (9 : Int32).toInt = 9) (by omega) (by omega)
  refine lv_iload_n hx hb dX10_set_8 rfl (lv_at hl 2 rfl) ?_
  refine lv_iadd hx hb dX10_set_9 ?_
  refine lv_topi (fun v2 ev2 => ?_)
  have tv2 := z_add ev2 (rfl : (v1).toInt = _) (by decide : (0 : Int32).toInt = 0) (by omega) (by omega)
  refine lv_iload_n hx hb dX10_set_10 rfl (lv_at hl 3 rfl) ?_
  refine tX_10_0 hx hb hK hP hD hS (f0 := (fa 10 0)) rfl (i := v2) (x := d) (vp_in_iff.mpr ⟨by omega, by omega⟩) dX10_set_11 (fun f3 ef3 H locs hP hD hS => ?_)
  have hf3 : ∀ j, inb (bA 10 0 j) (f3 j) := by rw [ef3]; exact upd_b (b := bA 10 0) (hI.2 10 0) (row_n (by rw [row_i (a := a.toInt) (c := 0) (by omega) (by omega) (by omega)]; omega))
  have hP9 : va_P (dC, dI) classes (WX h g ca iv lv (u2 fa 10 0 f3) la) H := hP
  have hD9 : va_D A (WX h g ca iv lv (u2 fa 10 0 f3) la) := hD
  exact W.vret hx hb hr (fun t ht9 hW => ⟨⟨(iv, lv, (u2 fa 10 0 f3), la), rfl, ⟨f3, hf3, (show ∀ j : Nat, j ≠ (9 * ((a).toInt).toNat + 0) → f3 j = (fa 10 0) j from fun j hj => by rw [ef3, upd_ne (by show j ≠ (v2 : Int32).toInt.toNat; omega)]), (show f3 (9 * ((a).toInt).toNat + 0) = d from (by rw [ef3, show 9 * (a.toInt).toNat + 0 = (v2 : Int32).toNatClampNeg from (by show _ = (v2 : Int32).toInt.toNat; omega)]; exact upd_eq)), rfl⟩, by rw [ht9]; exact hP9, hD9⟩, hS.F ht9⟩) hS.2.2 dX10_set_12
set_option maxHeartbeats 4000000 in
set_option maxRecDepth 100000 in
/-- X10_set -/
theorem c_X10_set_x1 (l : Launch) (dC : Nat → ClassId) (dI : Nat → Nat → Nat) (sz : Nat) (h : Nat) (g : Nat → Nat → Nat) (ca : Nat → Nat → ClassId) (iv : Nat → Nat → Int32) (lv : Nat → Nat → Int64) (fa : Nat → Nat → Nat → Int32) (la : Nat → Nat → Nat → Int64) (hI : IX iv fa) (a : Int32) (d : Int32) (h_a : 0 ≤ a.toInt ∧ a.toInt ≤ 59) (h_d : 0 ≤ d.toInt ∧ d.toInt ≤ 2) : Met l yX10_set (wc yX10_set cX10_set 4 none) ({ frames := 0, cells := 0, slots := 0, locals := 0 } : Room) (pW (dC, dI) classes (WX h g ca iv lv fa la) (TX ca) sz [.ref (g 11 0), .int a, .int 1, .int d]) (va_Qv (fun (u : SS) => ∃ (na_10_0 : Nat → Int32), (∀ j, inb (bA 10 0 j) (na_10_0 j)) ∧ (∀ j : Nat, j ≠ (9 * (a.toInt).toNat + 1) → na_10_0 j = (fa 10 0) j) ∧ (na_10_0 (9 * (a.toInt).toNat + 1) = d) ∧ u = (iv, lv, (u2 fa 10 0 na_10_0), la)) (bX (dC, dI) h g ca (va_A (WX h g ca iv lv fa la) sz)) (va_A (WX h g ca iv lv fa la) sz)) 0 0 (va_A (WX h g ca iv lv fa la) sz) := by
  refine Met.ofW (cc := cX10_set) (maxL := 4) (ret := none) (by decide) rfl ?_
  intro p e s m args below meth c s₁ B hml hv
  obtain ⟨rfl, hsz, hP, hK, hD0⟩ := hv
  have hx := B.exec
  have hb := B.bytes
  have hr := B.returns
  have ht := tb_tl (atoms_spec (ws := wc yX10_set cX10_set 4 none) B.pre)
  have hown : s.vm.findClass RX10 = some m.cls := findClass_of_methodNamed B.named
  have hlocks := B.notSynchronized
  subst hsz
  have hD := hD0.self (sz := s.heap.size)
  generalize hAe : va_A (WX h g ca iv lv fa la) s.heap.size = A at hD ⊢
  have hA : ∀ q : Nat, s.heap.size ≤ q → A q := fun q h => by rw [← hAe]; exact Or.inr h
  have hS : va_S A s.heap s.heap [] := va_S.rf
  have hl := lv_entry [.ref (g 11 0), .int a, .int 1, .int d] (n := 4) (Nat.le_of_ble_eq_true rfl)
  rw [lg_entry_eq]
  generalize (lg_sl [.ref (g 11 0), .int a, .int 1, .int d] ++ List.replicate (4 - (lg_sl [.ref (g 11 0), .int a, .int 1, .int d]).length) Slot.unset).toArray = ls at hl ⊢
  have hl : lv_has ls 4 [(0, .ref (g 11 0)), (1, .int a), (2, .int 1), (3, .int d)] := hl
  refine lv_aload_n hx hb dX10_set_0 rfl (lv_at hl 0 rfl) ?_
  refine gX_10_0 hx hb ht hown hK hP m_111 dX10_set_1 ?_
  refine lv_iload_n hx hb dX10_set_4 rfl (lv_at hl 1 rfl) ?_
  refine lv_bipush (v := 9) hx hb dX10_set_5 (by decide) ?_
  refine lv_imul hx hb dX10_set_7 ?_
  refine lv_topi (fun v1 ev1 => ?_)
  have tv1 := z_mul ev1 (rfl : (a).toInt = _) (by decide : (9 : Int32).toInt = 9) (by omega) (by omega)
  refine lv_iload_n hx hb dX10_set_8 rfl (lv_at hl 2 rfl) ?_
  refine lv_iadd hx hb dX10_set_9 ?_
  refine lv_topi (fun v2 ev2 => ?_)
  have tv2 := z_add ev2 (rfl : (v1).toInt = _) (by decide : (1 : Int32).toInt = 1) (by omega) (by omega)
  refine lv_iload_n hx hb dX10_set_10 rfl (lv_at hl 3 rfl) ?_
  refine tX_10_0 hx hb hK hP hD hS (f0 := (fa 10 0)) rfl (i := v2) (x := d) (vp_in_iff.mpr ⟨by omega, by omega⟩) dX10_set_11 (fun f3 ef3 H locs hP hD hS => ?_)
  have hf3 : ∀ j, inb (bA 10 0 j) (f3 j) := by rw [ef3]; exact upd_b (b := bA 10 0) (hI.2 10 0) (row_l ⟨by omega, by omega⟩)
  have hP9 : va_P (dC, dI) classes (WX h g ca iv lv (u2 fa 10 0 f3) la) H := hP
  have hD9 : va_D A (WX h g ca iv lv (u2 fa 10 0 f3) la) := hD
  exact W.vret hx hb hr (fun t ht9 hW => ⟨⟨(iv, lv, (u2 fa 10 0 f3), la), rfl, ⟨f3, hf3, (show ∀ j : Nat, j ≠ (9 * ((a).toInt).toNat + 1) → f3 j = (fa 10 0) j from fun j hj => by rw [ef3, upd_ne (by show j ≠ (v2 : Int32).toInt.toNat; omega)]), (show f3 (9 * ((a).toInt).toNat + 1) = d from (by rw [ef3, show 9 * (a.toInt).toNat + 1 = (v2 : Int32).toNatClampNeg from (by show _ = (v2 : Int32).toInt.toNat; omega)]; exact upd_eq)), rfl⟩, by rw [ht9]; exact hP9, hD9⟩, hS.F ht9⟩) hS.2.2 dX10_set_12
set_option maxHeartbeats 4000000 in
set_option maxRecDepth 100000 in
/-- X10_set -/
theorem c_X10_set_x2 (l : Launch) (dC : Nat → ClassId) (dI : Nat → Nat → Nat) (sz : Nat) (h : Nat) (g : Nat → Nat → Nat) (ca : Nat → Nat → ClassId) (iv : Nat → Nat → Int32) (lv : Nat → Nat → Int64) (fa : Nat → Nat → Nat → Int32) (la : Nat → Nat → Nat → Int64) (hI : IX iv fa) (a : Int32) (d : Int32) (h_a : 0 ≤ a.toInt ∧ a.toInt ≤ 59) : Met l yX10_set (wc yX10_set cX10_set 4 none) ({ frames := 0, cells := 0, slots := 0, locals := 0 } : Room) (pW (dC, dI) classes (WX h g ca iv lv fa la) (TX ca) sz [.ref (g 11 0), .int a, .int 2, .int d]) (va_Qv (fun (u : SS) => ∃ (na_10_0 : Nat → Int32), (∀ j, inb (bA 10 0 j) (na_10_0 j)) ∧ (∀ j : Nat, j ≠ (9 * (a.toInt).toNat + 2) → na_10_0 j = (fa 10 0) j) ∧ (na_10_0 (9 * (a.toInt).toNat + 2) = d) ∧ u = (iv, lv, (u2 fa 10 0 na_10_0), la)) (bX (dC, dI) h g ca (va_A (WX h g ca iv lv fa la) sz)) (va_A (WX h g ca iv lv fa la) sz)) 0 0 (va_A (WX h g ca iv lv fa la) sz) := by
  refine Met.ofW (cc := cX10_set) (maxL := 4) (ret := none) (by decide) rfl ?_
  intro p e s m args below meth c s₁ B hml hv
  obtain ⟨rfl, hsz, hP, hK, hD0⟩ := hv
  have hx := B.exec
  have hb := B.bytes
  have hr := B.returns
  have ht := tb_tl (atoms_spec (ws := wc yX10_set cX10_set 4 none) B.pre)
  have hown : s.vm.findClass RX10 = some m.cls := findClass_of_methodNamed B.named
  have hlocks := B.notSynchronized
  subst hsz
  have hD := hD0.self (sz := s.heap.size)
  generalize hAe : va_A (WX h g ca iv lv fa la) s.heap.size = A at hD ⊢
  have hA : ∀ q : Nat, s.heap.size ≤ q → A q := fun q h => by rw [← hAe]; exact Or.inr h
  have hS : va_S A s.heap s.heap [] := va_S.rf
  have hl := lv_entry [.ref (g 11 0), .int a, .int 2, .int d] (n := 4) (Nat.le_of_ble_eq_true rfl)
  rw [lg_entry_eq]
  generalize (lg_sl [.ref (g 11 0), .int a, .int 2, .int d] ++ List.replicate (4 - (lg_sl [.ref (g 11 0), .int a, .int 2, .int d]).length) Slot.unset).toArray = ls at hl ⊢
  have hl : lv_has ls 4 [(0, .ref (g 11 0)), (1, .int a), (2, .int 2), (3, .int d)] := hl
  refine lv_aload_n hx hb dX10_set_0 rfl (lv_at hl 0 rfl) ?_
  refine gX_10_0 hx hb ht hown hK hP m_111 dX10_set_1 ?_
  refine lv_iload_n hx hb dX10_set_4 rfl (lv_at hl 1 rfl) ?_
  refine lv_bipush (v := 9) hx hb dX10_set_5 (by decide) ?_
  refine lv_imul hx hb dX10_set_7 ?_
  refine lv_topi (fun v1 ev1 => ?_)
  have tv1 := z_mul ev1 (rfl : (a).toInt = _) (by decide : (9 : Int32).toInt = 9) (by omega) (by omega)
  refine lv_iload_n hx hb dX10_set_8 rfl (lv_at hl 2 rfl) ?_
  refine lv_iadd hx hb dX10_set_9 ?_
  refine lv_topi (fun v2 ev2 => ?_)
  have tv2 := z_add ev2 (rfl : (v1).toInt = _) (by decide : (2 : Int32).toInt = 2) (by omega) (by omega)
  refine lv_iload_n hx hb dX10_set_10 rfl (lv_at hl 3 rfl) ?_
  refine tX_10_0 hx hb hK hP hD hS (f0 := (fa 10 0)) rfl (i := v2) (x := d) (vp_in_iff.mpr ⟨by omega, by omega⟩) dX10_set_11 (fun f3 ef3 H locs hP hD hS => ?_)
  have hf3 : ∀ j, inb (bA 10 0 j) (f3 j) := by rw [ef3]; exact upd_b (b := bA 10 0) (hI.2 10 0) (row_n (by rw [row_i (a := a.toInt) (c := 2) (by omega) (by omega) (by omega)]; omega))
  have hP9 : va_P (dC, dI) classes (WX h g ca iv lv (u2 fa 10 0 f3) la) H := hP
  have hD9 : va_D A (WX h g ca iv lv (u2 fa 10 0 f3) la) := hD
  exact W.vret hx hb hr (fun t ht9 hW => ⟨⟨(iv, lv, (u2 fa 10 0 f3), la), rfl, ⟨f3, hf3, (show ∀ j : Nat, j ≠ (9 * ((a).toInt).toNat + 2) → f3 j = (fa 10 0) j from fun j hj => by rw [ef3, upd_ne (by show j ≠ (v2 : Int32).toInt.toNat; omega)]), (show f3 (9 * ((a).toInt).toNat + 2) = d from (by rw [ef3, show 9 * (a.toInt).toNat + 2 = (v2 : Int32).toNatClampNeg from (by show _ = (v2 : Int32).toInt.toNat; omega)]; exact upd_eq)), rfl⟩, by rw [ht9]; exact hP9, hD9⟩, hS.F ht9⟩) hS.2.2 dX10_set_12
set_option maxHeartbeats 4000000 in
set_option maxRecDepth 100000 in
/-- X10_set -/
theorem c_X10_set_x3 (l : Launch) (dC : Nat → ClassId) (dI : Nat → Nat → Nat) (sz : Nat) (h : Nat) (g : Nat → Nat → Nat) (ca : Nat → Nat → ClassId) (iv : Nat → Nat → Int32) (lv : Nat → Nat → Int64) (fa : Nat → Nat → Nat → Int32) (la : Nat → Nat → Nat → Int64) (hI : IX iv fa) (a : Int32) (d : Int32) (h_a : 0 ≤ a.toInt ∧ a.toInt ≤ 59) : Met l yX10_set (wc yX10_set cX10_set 4 none) ({ frames := 0, cells := 0, slots := 0, locals := 0 } : Room) (pW (dC, dI) classes (WX h g ca iv lv fa la) (TX ca) sz [.ref (g 11 0), .int a, .int 3, .int d]) (va_Qv (fun (u : SS) => ∃ (na_10_0 : Nat → Int32), (∀ j, inb (bA 10 0 j) (na_10_0 j)) ∧ (∀ j : Nat, j ≠ (9 * (a.toInt).toNat + 3) → na_10_0 j = (fa 10 0) j) ∧ (na_10_0 (9 * (a.toInt).toNat + 3) = d) ∧ u = (iv, lv, (u2 fa 10 0 na_10_0), la)) (bX (dC, dI) h g ca (va_A (WX h g ca iv lv fa la) sz)) (va_A (WX h g ca iv lv fa la) sz)) 0 0 (va_A (WX h g ca iv lv fa la) sz) := by
  refine Met.ofW (cc := cX10_set) (maxL := 4) (ret := none) (by decide) rfl ?_
  intro p e s m args below meth c s₁ B hml hv
  obtain ⟨rfl, hsz, hP, hK, hD0⟩ := hv
  have hx := B.exec
  have hb := B.bytes
  have hr := B.returns
  have ht := tb_tl (atoms_spec (ws := wc yX10_set cX10_set 4 none) B.pre)
  have hown : s.vm.findClass RX10 = some m.cls := findClass_of_methodNamed B.named
  have hlocks := B.notSynchronized
  subst hsz
  have hD := hD0.self (sz := s.heap.size)
  generalize hAe : va_A (WX h g ca iv lv fa la) s.heap.size = A at hD ⊢
  have hA : ∀ q : Nat, s.heap.size ≤ q → A q := fun q h => by rw [← hAe]; exact Or.inr h
  have hS : va_S A s.heap s.heap [] := va_S.rf
  have hl := lv_entry [.ref (g 11 0), .int a, .int 3, .int d] (n := 4) (Nat.le_of_ble_eq_true rfl)
  rw [lg_entry_eq]
  generalize (lg_sl [.ref (g 11 0), .int a, .int 3, .int d] ++ List.replicate (4 - (lg_sl [.ref (g 11 0), .int a, .int 3, .int d]).length) Slot.unset).toArray = ls at hl ⊢
  have hl : lv_has ls 4 [(0, .ref (g 11 0)), (1, .int a), (2, .int 3), (3, .int d)] := hl
  refine lv_aload_n hx hb dX10_set_0 rfl (lv_at hl 0 rfl) ?_
  refine gX_10_0 hx hb ht hown hK hP m_111 dX10_set_1 ?_
  refine lv_iload_n hx hb dX10_set_4 rfl (lv_at hl 1 rfl) ?_
  refine lv_bipush (v := 9) hx hb dX10_set_5 (by decide) ?_
  refine lv_imul hx hb dX10_set_7 ?_
  refine lv_topi (fun v1 ev1 => ?_)
  have tv1 := z_mul ev1 (rfl : (a).toInt = _) (by decide : (9 : Int32).toInt = 9) (by omega) (by omega)
  refine lv_iload_n hx hb dX10_set_8 rfl (lv_at hl 2 rfl) ?_
  refine lv_iadd hx hb dX10_set_9 ?_
  refine lv_topi (fun v2 ev2 => ?_)
  have tv2 := z_add ev2 (rfl : (v1).toInt = _) (by decide : (3 : Int32).toInt = 3) (by omega) (by omega)
  refine lv_iload_n hx hb dX10_set_10 rfl (lv_at hl 3 rfl) ?_
  refine tX_10_0 hx hb hK hP hD hS (f0 := (fa 10 0)) rfl (i := v2) (x := d) (vp_in_iff.mpr ⟨by omega, by omega⟩) dX10_set_11 (fun f3 ef3 H locs hP hD hS => ?_)
  have hf3 : ∀ j, inb (bA 10 0 j) (f3 j) := by rw [ef3]; exact upd_b (b := bA 10 0) (hI.2 10 0) (row_n (by rw [row_i (a := a.toInt) (c := 3) (by omega) (by omega) (by omega)]; omega))
  have hP9 : va_P (dC, dI) classes (WX h g ca iv lv (u2 fa 10 0 f3) la) H := hP
  have hD9 : va_D A (WX h g ca iv lv (u2 fa 10 0 f3) la) := hD
  exact W.vret hx hb hr (fun t ht9 hW => ⟨⟨(iv, lv, (u2 fa 10 0 f3), la), rfl, ⟨f3, hf3, (show ∀ j : Nat, j ≠ (9 * ((a).toInt).toNat + 3) → f3 j = (fa 10 0) j from fun j hj => by rw [ef3, upd_ne (by show j ≠ (v2 : Int32).toInt.toNat; omega)]), (show f3 (9 * ((a).toInt).toNat + 3) = d from (by rw [ef3, show 9 * (a.toInt).toNat + 3 = (v2 : Int32).toNatClampNeg from (by show _ = (v2 : Int32).toInt.toNat; omega)]; exact upd_eq)), rfl⟩, by rw [ht9]; exact hP9, hD9⟩, hS.F ht9⟩) hS.2.2 dX10_set_12
set_option maxHeartbeats 4000000 in
set_option maxRecDepth 100000 in
/-- X10_set -/
theorem c_X10_set_x4 (l : Launch) (dC : Nat → ClassId) (dI : Nat → Nat → Nat) (sz : Nat) (h : Nat) (g : Nat → Nat → Nat) (ca : Nat → Nat → ClassId) (iv : Nat → Nat → Int32) (lv : Nat → Nat → Int64) (fa : Nat → Nat → Nat → Int32) (la : Nat → Nat → Nat → Int64) (hI : IX iv fa) (a : Int32) (d : Int32) (h_a : 0 ≤ a.toInt ∧ a.toInt ≤ 59) : Met l yX10_set (wc yX10_set cX10_set 4 none) ({ frames := 0, cells := 0, slots := 0, locals := 0 } : Room) (pW (dC, dI) classes (WX h g ca iv lv fa la) (TX ca) sz [.ref (g 11 0), .int a, .int 4, .int d]) (va_Qv (fun (u : SS) => ∃ (na_10_0 : Nat → Int32), (∀ j, inb (bA 10 0 j) (na_10_0 j)) ∧ (∀ j : Nat, j ≠ (9 * (a.toInt).toNat + 4) → na_10_0 j = (fa 10 0) j) ∧ (na_10_0 (9 * (a.toInt).toNat + 4) = d) ∧ u = (iv, lv, (u2 fa 10 0 na_10_0), la)) (bX (dC, dI) h g ca (va_A (WX h g ca iv lv fa la) sz)) (va_A (WX h g ca iv lv fa la) sz)) 0 0 (va_A (WX h g ca iv lv fa la) sz) := by
  refine Met.ofW (cc := cX10_set) (maxL := 4) (ret := none) (by decide) rfl ?_
  intro p e s m args below meth c s₁ B hml hv
  obtain ⟨rfl, hsz, hP, hK, hD0⟩ := hv
  have hx := B.exec
  have hb := B.bytes
  have hr := B.returns
  have ht := tb_tl (atoms_spec (ws := wc yX10_set cX10_set 4 none) B.pre)
  have hown : s.vm.findClass RX10 = some m.cls := findClass_of_methodNamed B.named
  have hlocks := B.notSynchronized
  subst hsz
  have hD := hD0.self (sz := s.heap.size)
  generalize hAe : va_A (WX h g ca iv lv fa la) s.heap.size = A at hD ⊢
  have hA : ∀ q : Nat, s.heap.size ≤ q → A q := fun q h => by rw [← hAe]; exact Or.inr h
  have hS : va_S A s.heap s.heap [] := va_S.rf
  have hl := lv_entry [.ref (g 11 0), .int a, .int 4, .int d] (n := 4) (Nat.le_of_ble_eq_true rfl)
  rw [lg_entry_eq]
  generalize (lg_sl [.ref (g 11 0), .int a, .int 4, .int d] ++ List.replicate (4 - (lg_sl [.ref (g 11 0), .int a, .int 4, .int d]).length) Slot.unset).toArray = ls at hl ⊢
  have hl : lv_has ls 4 [(0, .ref (g 11 0)), (1, .int a), (2, .int 4), (3, .int d)] := hl
  refine lv_aload_n hx hb dX10_set_0 rfl (lv_at hl 0 rfl) ?_
  refine gX_10_0 hx hb ht hown hK hP m_111 dX10_set_1 ?_
  refine lv_iload_n hx hb dX10_set_4 rfl (lv_at hl 1 rfl) ?_
  refine lv_bipush (v := 9) hx hb dX10_set_5 (by decide) ?_
  refine lv_imul hx hb dX10_set_7 ?_
  refine lv_topi (fun v1 ev1 => ?_)
  have tv1 := z_mul ev1 (rfl : (a).toInt = _) (by decide : (9 : Int32).toInt = 9) (by omega) (by omega)
  refine lv_iload_n hx hb dX10_set_8 rfl (lv_at hl 2 rfl) ?_
  refine lv_iadd hx hb dX10_set_9 ?_
  refine lv_topi (fun v2 ev2 => ?_)
  have tv2 := z_add ev2 (rfl : (v1).toInt = _) (by decide : (4 : Int32).toInt = 4) (by omega) (by omega)
  refine lv_iload_n hx hb dX10_set_10 rfl (lv_at hl 3 rfl) ?_
  refine tX_10_0 hx hb hK hP hD hS (f0 := (fa 10 0)) rfl (i := v2) (x := d) (vp_in_iff.mpr ⟨by omega, by omega⟩) dX10_set_11 (fun f3 ef3 H locs hP hD hS => ?_)
  have hf3 : ∀ j, inb (bA 10 0 j) (f3 j) := by rw [ef3]; exact upd_b (b := bA 10 0) (hI.2 10 0) (row_n (by rw [row_i (a := a.toInt) (c := 4) (by omega) (by omega) (by omega)]; omega))
  have hP9 : va_P (dC, dI) classes (WX h g ca iv lv (u2 fa 10 0 f3) la) H := hP
  have hD9 : va_D A (WX h g ca iv lv (u2 fa 10 0 f3) la) := hD
  exact W.vret hx hb hr (fun t ht9 hW => ⟨⟨(iv, lv, (u2 fa 10 0 f3), la), rfl, ⟨f3, hf3, (show ∀ j : Nat, j ≠ (9 * ((a).toInt).toNat + 4) → f3 j = (fa 10 0) j from fun j hj => by rw [ef3, upd_ne (by show j ≠ (v2 : Int32).toInt.toNat; omega)]), (show f3 (9 * ((a).toInt).toNat + 4) = d from (by rw [ef3, show 9 * (a.toInt).toNat + 4 = (v2 : Int32).toNatClampNeg from (by show _ = (v2 : Int32).toInt.toNat; omega)]; exact upd_eq)), rfl⟩, by rw [ht9]; exact hP9, hD9⟩, hS.F ht9⟩) hS.2.2 dX10_set_12
set_option maxHeartbeats 4000000 in
set_option maxRecDepth 100000 in
/-- X10_set -/
theorem c_X10_set_x5 (l : Launch) (dC : Nat → ClassId) (dI : Nat → Nat → Nat) (sz : Nat) (h : Nat) (g : Nat → Nat → Nat) (ca : Nat → Nat → ClassId) (iv : Nat → Nat → Int32) (lv : Nat → Nat → Int64) (fa : Nat → Nat → Nat → Int32) (la : Nat → Nat → Nat → Int64) (hI : IX iv fa) (a : Int32) (d : Int32) (h_a : 0 ≤ a.toInt ∧ a.toInt ≤ 59) : Met l yX10_set (wc yX10_set cX10_set 4 none) ({ frames := 0, cells := 0, slots := 0, locals := 0 } : Room) (pW (dC, dI) classes (WX h g ca iv lv fa la) (TX ca) sz [.ref (g 11 0), .int a, .int 5, .int d]) (va_Qv (fun (u : SS) => ∃ (na_10_0 : Nat → Int32), (∀ j, inb (bA 10 0 j) (na_10_0 j)) ∧ (∀ j : Nat, j ≠ (9 * (a.toInt).toNat + 5) → na_10_0 j = (fa 10 0) j) ∧ (na_10_0 (9 * (a.toInt).toNat + 5) = d) ∧ u = (iv, lv, (u2 fa 10 0 na_10_0), la)) (bX (dC, dI) h g ca (va_A (WX h g ca iv lv fa la) sz)) (va_A (WX h g ca iv lv fa la) sz)) 0 0 (va_A (WX h g ca iv lv fa la) sz) := by
  refine Met.ofW (cc := cX10_set) (maxL := 4) (ret := none) (by decide) rfl ?_
  intro p e s m args below meth c s₁ B hml hv
  obtain ⟨rfl, hsz, hP, hK, hD0⟩ := hv
  have hx := B.exec
  have hb := B.bytes
  have hr := B.returns
  have ht := tb_tl (atoms_spec (ws := wc yX10_set cX10_set 4 none) B.pre)
  have hown : s.vm.findClass RX10 = some m.cls := findClass_of_methodNamed B.named
  have hlocks := B.notSynchronized
  subst hsz
  have hD := hD0.self (sz := s.heap.size)
  generalize hAe : va_A (WX h g ca iv lv fa la) s.heap.size = A at hD ⊢
  have hA : ∀ q : Nat, s.heap.size ≤ q → A q := fun q h => by rw [← hAe]; exact Or.inr h
  have hS : va_S A s.heap s.heap [] := va_S.rf
  have hl := lv_entry [.ref (g 11 0), .int a, .int 5, .int d] (n := 4) (Nat.le_of_ble_eq_true rfl)
  rw [lg_entry_eq]
  generalize (lg_sl [.ref (g 11 0), .int a, .int 5, .int d] ++ List.replicate (4 - (lg_sl [.ref (g 11 0), .int a, .int 5, .int d]).length) Slot.unset).toArray = ls at hl ⊢
  have hl : lv_has ls 4 [(0, .ref (g 11 0)), (1, .int a), (2, .int 5), (3, .int d)] := hl
  refine lv_aload_n hx hb dX10_set_0 rfl (lv_at hl 0 rfl) ?_
  refine gX_10_0 hx hb ht hown hK hP m_111 dX10_set_1 ?_
  refine lv_iload_n hx hb dX10_set_4 rfl (lv_at hl 1 rfl) ?_
  refine lv_bipush (v := 9) hx hb dX10_set_5 (by decide) ?_
  refine lv_imul hx hb dX10_set_7 ?_
  refine lv_topi (fun v1 ev1 => ?_)
  have tv1 := z_mul ev1 (rfl : (a).toInt = _) (by decide : (9 : Int32).toInt = 9) (by omega) (by omega)
  refine lv_iload_n hx hb dX10_set_8 rfl (lv_at hl 2 rfl) ?_
  refine lv_iadd hx hb dX10_set_9 ?_
  refine lv_topi (fun v2 ev2 => ?_)
  have tv2 := z_add ev2 (rfl : (v1).toInt = _) (by decide : (5 : Int32).toInt = 5) (by omega) (by omega)
  refine lv_iload_n hx hb dX10_set_10 rfl (lv_at hl 3 rfl) ?_
  refine tX_10_0 hx hb hK hP hD hS (f0 := (fa 10 0)) rfl (i := v2) (x := d) (vp_in_iff.mpr ⟨by omega, by omega⟩) dX10_set_11 (fun f3 ef3 H locs hP hD hS => ?_)
  have hf3 : ∀ j, inb (bA 10 0 j) (f3 j) := by rw [ef3]; exact upd_b (b := bA 10 0) (hI.2 10 0) (row_n (by rw [row_i (a := a.toInt) (c := 5) (by omega) (by omega) (by omega)]; omega))
  have hP9 : va_P (dC, dI) classes (WX h g ca iv lv (u2 fa 10 0 f3) la) H := hP
  have hD9 : va_D A (WX h g ca iv lv (u2 fa 10 0 f3) la) := hD
  exact W.vret hx hb hr (fun t ht9 hW => ⟨⟨(iv, lv, (u2 fa 10 0 f3), la), rfl, ⟨f3, hf3, (show ∀ j : Nat, j ≠ (9 * ((a).toInt).toNat + 5) → f3 j = (fa 10 0) j from fun j hj => by rw [ef3, upd_ne (by show j ≠ (v2 : Int32).toInt.toNat; omega)]), (show f3 (9 * ((a).toInt).toNat + 5) = d from (by rw [ef3, show 9 * (a.toInt).toNat + 5 = (v2 : Int32).toNatClampNeg from (by show _ = (v2 : Int32).toInt.toNat; omega)]; exact upd_eq)), rfl⟩, by rw [ht9]; exact hP9, hD9⟩, hS.F ht9⟩) hS.2.2 dX10_set_12
set_option maxHeartbeats 4000000 in
set_option maxRecDepth 100000 in
/-- X10_set -/
theorem c_X10_set_x6 (l : Launch) (dC : Nat → ClassId) (dI : Nat → Nat → Nat) (sz : Nat) (h : Nat) (g : Nat → Nat → Nat) (ca : Nat → Nat → ClassId) (iv : Nat → Nat → Int32) (lv : Nat → Nat → Int64) (fa : Nat → Nat → Nat → Int32) (la : Nat → Nat → Nat → Int64) (hI : IX iv fa) (a : Int32) (d : Int32) (h_a : 0 ≤ a.toInt ∧ a.toInt ≤ 59) : Met l yX10_set (wc yX10_set cX10_set 4 none) ({ frames := 0, cells := 0, slots := 0, locals := 0 } : Room) (pW (dC, dI) classes (WX h g ca iv lv fa la) (TX ca) sz [.ref (g 11 0), .int a, .int 6, .int d]) (va_Qv (fun (u : SS) => ∃ (na_10_0 : Nat → Int32), (∀ j, inb (bA 10 0 j) (na_10_0 j)) ∧ (∀ j : Nat, j ≠ (9 * (a.toInt).toNat + 6) → na_10_0 j = (fa 10 0) j) ∧ (na_10_0 (9 * (a.toInt).toNat + 6) = d) ∧ u = (iv, lv, (u2 fa 10 0 na_10_0), la)) (bX (dC, dI) h g ca (va_A (WX h g ca iv lv fa la) sz)) (va_A (WX h g ca iv lv fa la) sz)) 0 0 (va_A (WX h g ca iv lv fa la) sz) := by
  refine Met.ofW (cc := cX10_set) (maxL := 4) (ret := none) (by decide) rfl ?_
  intro p e s m args below meth c s₁ B hml hv
  obtain ⟨rfl, hsz, hP, hK, hD0⟩ := hv
  have hx := B.exec
  have hb := B.bytes
  have hr := B.returns
  have ht := tb_tl (atoms_spec (ws := wc yX10_set cX10_set 4 none) B.pre)
  have hown : s.vm.findClass RX10 = some m.cls := findClass_of_methodNamed B.named
  have hlocks := B.notSynchronized
  subst hsz
  have hD := hD0.self (sz := s.heap.size)
  generalize hAe : va_A (WX h g ca iv lv fa la) s.heap.size = A at hD ⊢
  have hA : ∀ q : Nat, s.heap.size ≤ q → A q := fun q h => by rw [← hAe]; exact Or.inr h
  have hS : va_S A s.heap s.heap [] := va_S.rf
  have hl := lv_entry [.ref (g 11 0), .int a, .int 6, .int d] (n := 4) (Nat.le_of_ble_eq_true rfl)
  rw [lg_entry_eq]
  generalize (lg_sl [.ref (g 11 0), .int a, .int 6, .int d] ++ List.replicate (4 - (lg_sl [.ref (g 11 0), .int a, .int 6, .int d]).length) Slot.unset).toArray = ls at hl ⊢
  have hl : lv_has ls 4 [(0, .ref (g 11 0)), (1, .int a), (2, .int 6), (3, .int d)] := hl
  refine lv_aload_n hx hb dX10_set_0 rfl (lv_at hl 0 rfl) ?_
  refine gX_10_0 hx hb ht hown hK hP m_111 dX10_set_1 ?_
  refine lv_iload_n hx hb dX10_set_4 rfl (lv_at hl 1 rfl) ?_
  refine lv_bipush (v := 9) hx hb dX10_set_5 (by decide) ?_
  refine lv_imul hx hb dX10_set_7 ?_
  refine lv_topi (fun v1 ev1 => ?_)
  have tv1 := z_mul ev1 (rfl : (a).toInt = _) (by decide : (9 : Int32).toInt = 9) (by omega) (by omega)
  refine lv_iload_n hx hb dX10_set_8 rfl (lv_at hl 2 rfl) ?_
  refine lv_iadd hx hb dX10_set_9 ?_
  refine lv_topi (fun v2 ev2 => ?_)
  have tv2 := z_add ev2 (rfl : (v1).toInt = _) (by decide : (6 : Int32).toInt = 6) (by omega) (by omega)
  refine lv_iload_n hx hb dX10_set_10 rfl (lv_at hl 3 rfl) ?_
  refine tX_10_0 hx hb hK hP hD hS (f0 := (fa 10 0)) rfl (i := v2) (x := d) (vp_in_iff.mpr ⟨by omega, by omega⟩) dX10_set_11 (fun f3 ef3 H locs hP hD hS => ?_)
  have hf3 : ∀ j, inb (bA 10 0 j) (f3 j) := by rw [ef3]; exact upd_b (b := bA 10 0) (hI.2 10 0) (row_n (by rw [row_i (a := a.toInt) (c := 6) (by omega) (by omega) (by omega)]; omega))
  have hP9 : va_P (dC, dI) classes (WX h g ca iv lv (u2 fa 10 0 f3) la) H := hP
  have hD9 : va_D A (WX h g ca iv lv (u2 fa 10 0 f3) la) := hD
  exact W.vret hx hb hr (fun t ht9 hW => ⟨⟨(iv, lv, (u2 fa 10 0 f3), la), rfl, ⟨f3, hf3, (show ∀ j : Nat, j ≠ (9 * ((a).toInt).toNat + 6) → f3 j = (fa 10 0) j from fun j hj => by rw [ef3, upd_ne (by show j ≠ (v2 : Int32).toInt.toNat; omega)]), (show f3 (9 * ((a).toInt).toNat + 6) = d from (by rw [ef3, show 9 * (a.toInt).toNat + 6 = (v2 : Int32).toNatClampNeg from (by show _ = (v2 : Int32).toInt.toNat; omega)]; exact upd_eq)), rfl⟩, by rw [ht9]; exact hP9, hD9⟩, hS.F ht9⟩) hS.2.2 dX10_set_12
set_option maxHeartbeats 4000000 in
set_option maxRecDepth 100000 in
/-- X10_set -/
theorem c_X10_set_x7 (l : Launch) (dC : Nat → ClassId) (dI : Nat → Nat → Nat) (sz : Nat) (h : Nat) (g : Nat → Nat → Nat) (ca : Nat → Nat → ClassId) (iv : Nat → Nat → Int32) (lv : Nat → Nat → Int64) (fa : Nat → Nat → Nat → Int32) (la : Nat → Nat → Nat → Int64) (hI : IX iv fa) (a : Int32) (d : Int32) (h_a : 0 ≤ a.toInt ∧ a.toInt ≤ 59) : Met l yX10_set (wc yX10_set cX10_set 4 none) ({ frames := 0, cells := 0, slots := 0, locals := 0 } : Room) (pW (dC, dI) classes (WX h g ca iv lv fa la) (TX ca) sz [.ref (g 11 0), .int a, .int 7, .int d]) (va_Qv (fun (u : SS) => ∃ (na_10_0 : Nat → Int32), (∀ j, inb (bA 10 0 j) (na_10_0 j)) ∧ (∀ j : Nat, j ≠ (9 * (a.toInt).toNat + 7) → na_10_0 j = (fa 10 0) j) ∧ (na_10_0 (9 * (a.toInt).toNat + 7) = d) ∧ u = (iv, lv, (u2 fa 10 0 na_10_0), la)) (bX (dC, dI) h g ca (va_A (WX h g ca iv lv fa la) sz)) (va_A (WX h g ca iv lv fa la) sz)) 0 0 (va_A (WX h g ca iv lv fa la) sz) := by
  refine Met.ofW (cc := cX10_set) (maxL := 4) (ret := none) (by decide) rfl ?_
  intro p e s m args below meth c s₁ B hml hv
  obtain ⟨rfl, hsz, hP, hK, hD0⟩ := hv
  have hx := B.exec
  have hb := B.bytes
  have hr := B.returns
  have ht := tb_tl (atoms_spec (ws := wc yX10_set cX10_set 4 none) B.pre)
  have hown : s.vm.findClass RX10 = some m.cls := findClass_of_methodNamed B.named
  have hlocks := B.notSynchronized
  subst hsz
  have hD := hD0.self (sz := s.heap.size)
  generalize hAe : va_A (WX h g ca iv lv fa la) s.heap.size = A at hD ⊢
  have hA : ∀ q : Nat, s.heap.size ≤ q → A q := fun q h => by rw [← hAe]; exact Or.inr h
  have hS : va_S A s.heap s.heap [] := va_S.rf
  have hl := lv_entry [.ref (g 11 0), .int a, .int 7, .int d] (n := 4) (Nat.le_of_ble_eq_true rfl)
  rw [lg_entry_eq]
  generalize (lg_sl [.ref (g 11 0), .int a, .int 7, .int d] ++ List.replicate (4 - (lg_sl [.ref (g 11 0), .int a, .int 7, .int d]).length) Slot.unset).toArray = ls at hl ⊢
  have hl : lv_has ls 4 [(0, .ref (g 11 0)), (1, .int a), (2, .int 7), (3, .int d)] := hl
  refine lv_aload_n hx hb dX10_set_0 rfl (lv_at hl 0 rfl) ?_
  refine gX_10_0 hx hb ht hown hK hP m_111 dX10_set_1 ?_
  refine lv_iload_n hx hb dX10_set_4 rfl (lv_at hl 1 rfl) ?_
  refine lv_bipush (v := 9) hx hb dX10_set_5 (by decide) ?_
  refine lv_imul hx hb dX10_set_7 ?_
  refine lv_topi (fun v1 ev1 => ?_)
  have tv1 := z_mul ev1 (rfl : (a).toInt = _) (by decide : (9 : Int32).toInt = 9) (by omega) (by omega)
  refine lv_iload_n hx hb dX10_set_8 rfl (lv_at hl 2 rfl) ?_
  refine lv_iadd hx hb dX10_set_9 ?_
  refine lv_topi (fun v2 ev2 => ?_)
  have tv2 := z_add ev2 (rfl : (v1).toInt = _) (by decide : (7 : Int32).toInt = 7) (by omega) (by omega)
  refine lv_iload_n hx hb dX10_set_10 rfl (lv_at hl 3 rfl) ?_
  refine tX_10_0 hx hb hK hP hD hS (f0 := (fa 10 0)) rfl (i := v2) (x := d) (vp_in_iff.mpr ⟨by omega, by omega⟩) dX10_set_11 (fun f3 ef3 H locs hP hD hS => ?_)
  have hf3 : ∀ j, inb (bA 10 0 j) (f3 j) := by rw [ef3]; exact upd_b (b := bA 10 0) (hI.2 10 0) (row_n (by rw [row_i (a := a.toInt) (c := 7) (by omega) (by omega) (by omega)]; omega))
  have hP9 : va_P (dC, dI) classes (WX h g ca iv lv (u2 fa 10 0 f3) la) H := hP
  have hD9 : va_D A (WX h g ca iv lv (u2 fa 10 0 f3) la) := hD
  exact W.vret hx hb hr (fun t ht9 hW => ⟨⟨(iv, lv, (u2 fa 10 0 f3), la), rfl, ⟨f3, hf3, (show ∀ j : Nat, j ≠ (9 * ((a).toInt).toNat + 7) → f3 j = (fa 10 0) j from fun j hj => by rw [ef3, upd_ne (by show j ≠ (v2 : Int32).toInt.toNat; omega)]), (show f3 (9 * ((a).toInt).toNat + 7) = d from (by rw [ef3, show 9 * (a.toInt).toNat + 7 = (v2 : Int32).toNatClampNeg from (by show _ = (v2 : Int32).toInt.toNat; omega)]; exact upd_eq)), rfl⟩, by rw [ht9]; exact hP9, hD9⟩, hS.F ht9⟩) hS.2.2 dX10_set_12
set_option maxHeartbeats 4000000 in
set_option maxRecDepth 100000 in
/-- X10_set -/
theorem c_X10_set_x8 (l : Launch) (dC : Nat → ClassId) (dI : Nat → Nat → Nat) (sz : Nat) (h : Nat) (g : Nat → Nat → Nat) (ca : Nat → Nat → ClassId) (iv : Nat → Nat → Int32) (lv : Nat → Nat → Int64) (fa : Nat → Nat → Nat → Int32) (la : Nat → Nat → Nat → Int64) (hI : IX iv fa) (a : Int32) (d : Int32) (h_a : 0 ≤ a.toInt ∧ a.toInt ≤ 59) : Met l yX10_set (wc yX10_set cX10_set 4 none) ({ frames := 0, cells := 0, slots := 0, locals := 0 } : Room) (pW (dC, dI) classes (WX h g ca iv lv fa la) (TX ca) sz [.ref (g 11 0), .int a, .int 8, .int d]) (va_Qv (fun (u : SS) => ∃ (na_10_0 : Nat → Int32), (∀ j, inb (bA 10 0 j) (na_10_0 j)) ∧ (∀ j : Nat, j ≠ (9 * (a.toInt).toNat + 8) → na_10_0 j = (fa 10 0) j) ∧ (na_10_0 (9 * (a.toInt).toNat + 8) = d) ∧ u = (iv, lv, (u2 fa 10 0 na_10_0), la)) (bX (dC, dI) h g ca (va_A (WX h g ca iv lv fa la) sz)) (va_A (WX h g ca iv lv fa la) sz)) 0 0 (va_A (WX h g ca iv lv fa la) sz) := by
  refine Met.ofW (cc := cX10_set) (maxL := 4) (ret := none) (by decide) rfl ?_
  intro p e s m args below meth c s₁ B hml hv
  obtain ⟨rfl, hsz, hP, hK, hD0⟩ := hv
  have hx := B.exec
  have hb := B.bytes
  have hr := B.returns
  have ht := tb_tl (atoms_spec (ws := wc yX10_set cX10_set 4 none) B.pre)
  have hown : s.vm.findClass RX10 = some m.cls := findClass_of_methodNamed B.named
  have hlocks := B.notSynchronized
  subst hsz
  have hD := hD0.self (sz := s.heap.size)
  generalize hAe : va_A (WX h g ca iv lv fa la) s.heap.size = A at hD ⊢
  have hA : ∀ q : Nat, s.heap.size ≤ q → A q := fun q h => by rw [← hAe]; exact Or.inr h
  have hS : va_S A s.heap s.heap [] := va_S.rf
  have hl := lv_entry [.ref (g 11 0), .int a, .int 8, .int d] (n := 4) (Nat.le_of_ble_eq_true rfl)
  rw [lg_entry_eq]
  generalize (lg_sl [.ref (g 11 0), .int a, .int 8, .int d] ++ List.replicate (4 - (lg_sl [.ref (g 11 0), .int a, .int 8, .int d]).length) Slot.unset).toArray = ls at hl ⊢
  have hl : lv_has ls 4 [(0, .ref (g 11 0)), (1, .int a), (2, .int 8), (3, .int d)] := hl
  refine lv_aload_n hx hb dX10_set_0 rfl (lv_at hl 0 rfl) ?_
  refine gX_10_0 hx hb ht hown hK hP m_111 dX10_set_1 ?_
  refine lv_iload_n hx hb dX10_set_4 rfl (lv_at hl 1 rfl) ?_
  refine lv_bipush (v := 9) hx hb dX10_set_5 (by decide) ?_
  refine lv_imul hx hb dX10_set_7 ?_
  refine lv_topi (fun v1 ev1 => ?_)
  have tv1 := z_mul ev1 (rfl : (a).toInt = _) (by decide : (9 : Int32).toInt = 9) (by omega) (by omega)
  refine lv_iload_n hx hb dX10_set_8 rfl (lv_at hl 2 rfl) ?_
  refine lv_iadd hx hb dX10_set_9 ?_
  refine lv_topi (fun v2 ev2 => ?_)
  have tv2 := z_add ev2 (rfl : (v1).toInt = _) (by decide : (8 : Int32).toInt = 8) (by omega) (by omega)
  refine lv_iload_n hx hb dX10_set_10 rfl (lv_at hl 3 rfl) ?_
  refine tX_10_0 hx hb hK hP hD hS (f0 := (fa 10 0)) rfl (i := v2) (x := d) (vp_in_iff.mpr ⟨by omega, by omega⟩) dX10_set_11 (fun f3 ef3 H locs hP hD hS => ?_)
  have hf3 : ∀ j, inb (bA 10 0 j) (f3 j) := by rw [ef3]; exact upd_b (b := bA 10 0) (hI.2 10 0) (row_n (by rw [row_i (a := a.toInt) (c := 8) (by omega) (by omega) (by omega)]; omega))
  have hP9 : va_P (dC, dI) classes (WX h g ca iv lv (u2 fa 10 0 f3) la) H := hP
  have hD9 : va_D A (WX h g ca iv lv (u2 fa 10 0 f3) la) := hD
  exact W.vret hx hb hr (fun t ht9 hW => ⟨⟨(iv, lv, (u2 fa 10 0 f3), la), rfl, ⟨f3, hf3, (show ∀ j : Nat, j ≠ (9 * ((a).toInt).toNat + 8) → f3 j = (fa 10 0) j from fun j hj => by rw [ef3, upd_ne (by show j ≠ (v2 : Int32).toInt.toNat; omega)]), (show f3 (9 * ((a).toInt).toNat + 8) = d from (by rw [ef3, show 9 * (a.toInt).toNat + 8 = (v2 : Int32).toNatClampNeg from (by show _ = (v2 : Int32).toInt.toNat; omega)]; exact upd_eq)), rfl⟩, by rw [ht9]; exact hP9, hD9⟩, hS.F ht9⟩) hS.2.2 dX10_set_12
set_option maxHeartbeats 4000000 in
set_option maxRecDepth 100000 in
/-- X10_draw -/
theorem c_X10_draw_x (l : Launch) (dC : Nat → ClassId) (dI : Nat → Nat → Nat) (sz : Nat) (h : Nat) (g : Nat → Nat → Nat) (ca : Nat → Nat → ClassId) (iv : Nat → Nat → Int32) (lv : Nat → Nat → Int64) (fa : Nat → Nat → Nat → Int32) (la : Nat → Nat → Nat → Int64) (hI : IX iv fa) (a : Int32) (b : Int32) (d : Int32) (q_10_1 : 0 ≤ (iv 10 1).toInt ∧ (iv 10 1).toInt ≤ 59) (h_b : 0 ≤ b.toInt ∧ b.toInt ≤ 2) : Met l yX10_draw (wc yX10_draw cX10_draw 5 (some .int)) ({ frames := 1, cells := 0, slots := 0, locals := 23 } : Room) (pW (dC, dI) classes (WX h g ca iv lv fa la) (TX ca) sz [.ref (g 11 0), .int a, .int b, .int d]) (va_Qi (fun r (u : SS) => ∃ (na_10_0 : Nat → Int32) (ni_10_1 : Int32), (∀ j, inb (bA 10 0 j) (na_10_0 j)) ∧ inb (bI 10 1) ni_10_1 ∧ ni_10_1.toInt = (iv 10 1).toInt + 1 ∧ (∀ j : Nat, (j < (9 * ((iv 10 1).toInt).toNat + 0) ∨ (9 * ((iv 10 1).toInt).toNat + 9) ≤ j) → na_10_0 j = (fa 10 0) j) ∧ (na_10_0 (9 * ((iv 10 1).toInt).toNat + 0) = a) ∧ (na_10_0 (9 * ((iv 10 1).toInt).toNat + 1) = b) ∧ (na_10_0 (9 * ((iv 10 1).toInt).toNat + 7) = d) ∧ (na_10_0 (9 * ((iv 10 1).toInt).toNat + 8) = (-1)) ∧ (r.toInt = (iv 10 1).toInt) ∧ (0 ≤ r.toInt ∧ r.toInt ≤ 59) ∧ u = ((u2 iv 10 1 ni_10_1), lv, (u2 fa 10 0 na_10_0), la)) (bX (dC, dI) h g ca (va_A (WX h g ca iv lv fa la) sz)) (va_A (WX h g ca iv lv fa la) sz)) 0 0 (va_A (WX h g ca iv lv fa la) sz) := by
  refine Met.ofW (cc := cX10_draw) (maxL := 5) (ret := (some .int)) (by decide) rfl ?_
  intro p e s m args below meth c s₁ B hml hv
  obtain ⟨rfl, hsz, hP, hK, hD0⟩ := hv
  have hx := B.exec
  have hb := B.bytes
  have hr := B.returns
  have ht := tb_tl (atoms_spec (ws := wc yX10_draw cX10_draw 5 (some .int)) B.pre)
  have hown : s.vm.findClass RX10 = some m.cls := findClass_of_methodNamed B.named
  have hlocks := B.notSynchronized
  subst hsz
  have hD := hD0.self (sz := s.heap.size)
  generalize hAe : va_A (WX h g ca iv lv fa la) s.heap.size = A at hD ⊢
  have hA : ∀ q : Nat, s.heap.size ≤ q → A q := fun q h => by rw [← hAe]; exact Or.inr h
  have hS : va_S A s.heap s.heap [] := va_S.rf
  have hl := lv_entry [.ref (g 11 0), .int a, .int b, .int d] (n := 5) (Nat.le_of_ble_eq_true rfl)
  rw [lg_entry_eq]
  generalize (lg_sl [.ref (g 11 0), .int a, .int b, .int d] ++ List.replicate (5 - (lg_sl [.ref (g 11 0), .int a, .int b, .int d]).length) Slot.unset).toArray = ls at hl ⊢
  have hl : lv_has ls 5 [(0, .ref (g 11 0)), (1, .int a), (2, .int b), (3, .int d)] := hl
  refine lv_aload_n hx hb dX10_draw_0 rfl (lv_at hl 0 rfl) ?_
  have i_10_1 : 0 ≤ (iv 10 1).toInt ∧ (iv 10 1).toInt ≤ 60 := hI.1 10 1
  refine gX_10_1 hx hb ht hown hK hP m_112 (v := (iv 10 1)) rfl dX10_draw_1 ?_
  refine lv_istore (lv' := [(4, .int (iv 10 1)), (0, .ref (g 11 0)), (1, .int a), (2, .int b), (3, .int d)]) hx hb dX10_draw_4 hl (by decide) rfl (fun ls hl => ?_)
  refine lv_aload_n hx hb dX10_draw_6 rfl (lv_at hl 1 rfl) ?_
  refine lv_iload hx hb dX10_draw_7 (lv_at hl 0 rfl) ?_
  refine lv_iconst (v := 0) hx hb dX10_draw_9 (by decide) ?_
  refine lv_iload_n hx hb dX10_draw_10 rfl (lv_at hl 2 rfl) ?_
  have hFc := free_all hD hS hA
  refine va_callv (va_runV (As := [.int (iv 10 1), .int 0, .int a]) (rest := []) ⟨hx, hb, hml, hown, ht⟩ (c_X10_set_x0 l dC dI s.heap.size h g ca iv lv fa la hI (iv 10 1) a ⟨by omega, by omega⟩) (kV 3 ht m_493 m_495 m_0 m_78 m_496 rfl rfl hd_X10_set_v ⟨Nat.le_of_ble_eq_true rfl, Nat.le_of_ble_eq_true rfl⟩) (vW hP hK hD (rX_10 hK hP)) rfl rfl hl.1 rfl (lv_room (Nat.le_of_ble_eq_true rfl)) dX10_draw_11 ⟨Nat.le_of_ble_eq_true rfl, Nat.le_of_ble_eq_true rfl⟩) hS (fun q _ h => hFc q h) hFc (fun u t H1 locs ht9 hvm hr1 hB hz1 hk1 hS => ?_)
  obtain ⟨n2, hn2, xr1_0, xr1_1, rfl⟩ := hr1
  obtain ⟨hP, hD⟩ := hB
  rw [ht9] at hP
  generalize H1 = H at hP hS ⊢
  have hP : va_P (dC, dI) classes (WX h g ca iv lv (u2 fa 10 0 n2) la) H := hP
  have hD : va_D A (WX h g ca iv lv (u2 fa 10 0 n2) la) := (show va_D _ (WX h g ca iv lv (u2 fa 10 0 n2) la) from hD).weaken (fun _ _ _ h => hFc _ h)
  have xr1_0 : ∀ j : Nat, j ≠ (9 * (((iv 10 1) : Int32).toInt).toNat + 0) → n2 j = (fa 10 0) j := xr1_0
  have xr1_1 : n2 (9 * (((iv 10 1) : Int32).toInt).toNat + 0) = (a : Int32) := xr1_1
  refine lv_aload_n hx hb dX10_draw_14 rfl (lv_at hl 1 rfl) ?_
  refine lv_iload hx hb dX10_draw_15 (lv_at hl 0 rfl) ?_
  refine lv_iconst (v := 1) hx hb dX10_draw_17 (by decide) ?_
  refine lv_iload_n hx hb dX10_draw_18 rfl (lv_at hl 3 rfl) ?_
  have hFc := free_all hD hS hA
  refine va_callv (va_runV (As := [.int (iv 10 1), .int 1, .int b]) (rest := []) ⟨hx, hb, hml, hown, ht⟩ (c_X10_set_x1 l dC dI H.size h g ca iv lv (u2 fa 10 0 n2) la (IX_a (c := 10) (k := 0) hI hn2) (iv 10 1) b ⟨by omega, by omega⟩ ⟨by omega, by omega⟩) (kV 3 ht m_493 m_495 m_0 m_78 m_496 rfl rfl hd_X10_set_v ⟨Nat.le_of_ble_eq_true rfl, Nat.le_of_ble_eq_true rfl⟩) (vW hP hK hD (rX_10 hK hP)) rfl rfl hl.1 rfl (lv_room (Nat.le_of_ble_eq_true rfl)) dX10_draw_19 ⟨Nat.le_of_ble_eq_true rfl, Nat.le_of_ble_eq_true rfl⟩) hS (fun q _ h => hFc q h) hFc (fun u t H1 locs ht9 hvm hr3 hB hz1 hk1 hS => ?_)
  obtain ⟨n4, hn4, xr3_0, xr3_1, rfl⟩ := hr3
  obtain ⟨hP, hD⟩ := hB
  rw [ht9] at hP
  generalize H1 = H at hP hS ⊢
  have hP : va_P (dC, dI) classes (WX h g ca iv lv (u2 fa 10 0 n4) la) H := hP
  have hD : va_D A (WX h g ca iv lv (u2 fa 10 0 n4) la) := (show va_D _ (WX h g ca iv lv (u2 fa 10 0 n4) la) from hD).weaken (fun _ _ _ h => hFc _ h)
  have xr3_0 : ∀ j : Nat, j ≠ (9 * (((iv 10 1) : Int32).toInt).toNat + 1) → n4 j = n2 j := xr3_0
  have xr3_1 : n4 (9 * (((iv 10 1) : Int32).toInt).toNat + 1) = (b : Int32) := xr3_1
  refine lv_aload_n hx hb dX10_draw_22 rfl (lv_at hl 1 rfl) ?_
  refine lv_iload hx hb dX10_draw_23 (lv_at hl 0 rfl) ?_
  refine lv_bipush (v := 7) hx hb dX10_draw_25 (by decide) ?_
  refine lv_iload_n hx hb dX10_draw_27 rfl (lv_at hl 4 rfl) ?_
  have hFc := free_all hD hS hA
  refine va_callv (va_runV (As := [.int (iv 10 1), .int 7, .int d]) (rest := []) ⟨hx, hb, hml, hown, ht⟩ (c_X10_set_x7 l dC dI H.size h g ca iv lv (u2 fa 10 0 n4) la (IX_a (c := 10) (k := 0) hI hn4) (iv 10 1) d ⟨by omega, by omega⟩) (kV 3 ht m_493 m_495 m_0 m_78 m_496 rfl rfl hd_X10_set_v ⟨Nat.le_of_ble_eq_true rfl, Nat.le_of_ble_eq_true rfl⟩) (vW hP hK hD (rX_10 hK hP)) rfl rfl hl.1 rfl (lv_room (Nat.le_of_ble_eq_true rfl)) dX10_draw_28 ⟨Nat.le_of_ble_eq_true rfl, Nat.le_of_ble_eq_true rfl⟩) hS (fun q _ h => hFc q h) hFc (fun u t H1 locs ht9 hvm hr5 hB hz1 hk1 hS => ?_)
  obtain ⟨n6, hn6, xr5_0, xr5_1, rfl⟩ := hr5
  obtain ⟨hP, hD⟩ := hB
  rw [ht9] at hP
  generalize H1 = H at hP hS ⊢
  have hP : va_P (dC, dI) classes (WX h g ca iv lv (u2 fa 10 0 n6) la) H := hP
  have hD : va_D A (WX h g ca iv lv (u2 fa 10 0 n6) la) := (show va_D _ (WX h g ca iv lv (u2 fa 10 0 n6) la) from hD).weaken (fun _ _ _ h => hFc _ h)
  have xr5_0 : ∀ j : Nat, j ≠ (9 * (((iv 10 1) : Int32).toInt).toNat + 7) → n6 j = n4 j := xr5_0
  have xr5_1 : n6 (9 * (((iv 10 1) : Int32).toInt).toNat + 7) = (d : Int32) := xr5_1
  refine lv_aload_n hx hb dX10_draw_31 rfl (lv_at hl 1 rfl) ?_
  refine lv_iload hx hb dX10_draw_32 (lv_at hl 0 rfl) ?_
  refine lv_bipush (v := 8) hx hb dX10_draw_34 (by decide) ?_
  refine lv_iconst (v := (-1)) hx hb dX10_draw_36 (by decide) ?_
  have hFc := free_all hD hS hA
  refine va_callv (va_runV (As := [.int (iv 10 1), .int 8, .int (-1)]) (rest := []) ⟨hx, hb, hml, hown, ht⟩ (c_X10_set_x8 l dC dI H.size h g ca iv lv (u2 fa 10 0 n6) la (IX_a (c := 10) (k := 0) hI hn6) (iv 10 1) (-1) ⟨by omega, by omega⟩) (kV 3 ht m_493 m_495 m_0 m_78 m_496 rfl rfl hd_X10_set_v ⟨Nat.le_of_ble_eq_true rfl, Nat.le_of_ble_eq_true rfl⟩) (vW hP hK hD (rX_10 hK hP)) rfl rfl hl.1 rfl (lv_room (Nat.le_of_ble_eq_true rfl)) dX10_draw_37 ⟨Nat.le_of_ble_eq_true rfl, Nat.le_of_ble_eq_true rfl⟩) hS (fun q _ h => hFc q h) hFc (fun u t H1 locs ht9 hvm hr7 hB hz1 hk1 hS => ?_)
  obtain ⟨n8, hn8, xr7_0, xr7_1, rfl⟩ := hr7
  obtain ⟨hP, hD⟩ := hB
  rw [ht9] at hP
  generalize H1 = H at hP hS ⊢
  have hP : va_P (dC, dI) classes (WX h g ca iv lv (u2 fa 10 0 n8) la) H := hP
  have hD : va_D A (WX h g ca iv lv (u2 fa 10 0 n8) la) := (show va_D _ (WX h g ca iv lv (u2 fa 10 0 n8) la) from hD).weaken (fun _ _ _ h => hFc _ h)
  have xr7_0 : ∀ j : Nat, j ≠ (9 * (((iv 10 1) : Int32).toInt).toNat + 8) → n8 j = n6 j := xr7_0
  have xr7_1 : n8 (9 * (((iv 10 1) : Int32).toInt).toNat + 8) = ((-1) : Int32) := xr7_1
  refine lv_aload_n hx hb dX10_draw_40 rfl (lv_at hl 1 rfl) ?_
  refine lv_dup hx hb dX10_draw_41 rfl ?_
  refine gX_10_1 hx hb ht hown hK hP m_112 (v := (iv 10 1)) rfl dX10_draw_42 ?_
  refine lv_iconst (v := 1) hx hb dX10_draw_45 (by decide) ?_
  refine lv_iadd hx hb dX10_draw_46 ?_
  refine lv_topi (fun v9 ev9 => ?_)
  have tv9 := z_add ev9 (rfl : ((iv 10 1)).toInt = _) (by decide : (1 : Int32).toInt = 1) (by omega) (by omega)
  refine pX_10_1 (v := v9) hx hb ht hown hK hP hD hS m_112 dX10_draw_47 (fun H locs hP hD hS => ?_)
  refine lv_iload hx hb dX10_draw_50 (lv_at hl 0 rfl) ?_
  have hP9 : va_P (dC, dI) classes (WX h g ca (u2 iv 10 1 v9) lv (u2 fa 10 0 n8) la) H := hP
  have hD9 : va_D A (WX h g ca (u2 iv 10 1 v9) lv (u2 fa 10 0 n8) la) := hD
  exact W.iret (v := (iv 10 1)) hx hb hr (fun t ht9 hW => ⟨⟨(iv 10 1), ((u2 iv 10 1 v9), lv, (u2 fa 10 0 n8), la), rfl, ⟨n8, v9, hn8, (show inb (0, 60) v9 from ⟨by omega, by omega⟩), (by omega), (show ∀ j : Nat, (j < (9 * ((iv 10 1).toInt).toNat + 0) ∨ (9 * ((iv 10 1).toInt).toNat + 9) ≤ j) → n8 j = (fa 10 0) j from fun j hj => by rw [xr7_0 j (by omega), xr5_0 j (by omega), xr3_0 j (by omega), xr1_0 j (by omega)]), (show n8 (9 * ((iv 10 1).toInt).toNat + 0) = a from (by rw [xr7_0 (9 * ((iv 10 1).toInt).toNat + 0) (by omega), xr5_0 (9 * ((iv 10 1).toInt).toNat + 0) (by omega), xr3_0 (9 * ((iv 10 1).toInt).toNat + 0) (by omega)]; exact xr1_1)), (show n8 (9 * ((iv 10 1).toInt).toNat + 1) = b from (by rw [xr7_0 (9 * ((iv 10 1).toInt).toNat + 1) (by omega), xr5_0 (9 * ((iv 10 1).toInt).toNat + 1) (by omega)]; exact xr3_1)), (show n8 (9 * ((iv 10 1).toInt).toNat + 7) = d from (by rw [xr7_0 (9 * ((iv 10 1).toInt).toNat + 7) (by omega)]; exact xr5_1)), (show n8 (9 * ((iv 10 1).toInt).toNat + 8) = (-1) from (by exact xr7_1)), (show ((iv 10 1) : Int32).toInt = (iv 10 1).toInt from by omega), ⟨by omega, by omega⟩, rfl⟩, by rw [ht9]; exact hP9, hD9⟩, hS.F ht9⟩) hS.2.2 dX10_draw_52
set_option maxHeartbeats 4000000 in
set_option maxRecDepth 100000 in
/-- X10_weigh -/
theorem c_X10_weigh_x (l : Launch) (dC : Nat → ClassId) (dI : Nat → Nat → Nat) (sz : Nat) (h : Nat) (g : Nat → Nat → Nat) (ca : Nat → Nat → ClassId) (iv : Nat → Nat → Int32) (lv : Nat → Nat → Int64) (fa : Nat → Nat → Nat → Int32) (la : Nat → Nat → Nat → Int64) (hI : IX iv fa) (a : Int32) (b : Int32) (d : Int32) (k : Int32) (h_a : 0 ≤ a.toInt ∧ a.toInt ≤ 59) : Met l yX10_weigh (wc yX10_weigh cX10_weigh 5 none) ({ frames := 1, cells := 0, slots := 0, locals := 23 } : Room) (pW (dC, dI) classes (WX h g ca iv lv fa la) (TX ca) sz [.ref (g 11 0), .int a, .int b, .int d, .int k]) (va_Qv (fun (u : SS) => ∃ (na_10_0 : Nat → Int32), (∀ j, inb (bA 10 0 j) (na_10_0 j)) ∧ (∀ j : Nat, (j ≠ (9 * (a.toInt).toNat + 2) ∧ j ≠ (9 * (a.toInt).toNat + 3) ∧ j ≠ (9 * (a.toInt).toNat + 4)) → na_10_0 j = (fa 10 0) j) ∧ (na_10_0 (9 * (a.toInt).toNat + 2) = b) ∧ (na_10_0 (9 * (a.toInt).toNat + 3) = d) ∧ (na_10_0 (9 * (a.toInt).toNat + 4) = k) ∧ u = (iv, lv, (u2 fa 10 0 na_10_0), la)) (bX (dC, dI) h g ca (va_A (WX h g ca iv lv fa la) sz)) (va_A (WX h g ca iv lv fa la) sz)) 0 0 (va_A (WX h g ca iv lv fa la) sz) := by
  refine Met.ofW (cc := cX10_weigh) (maxL := 5) (ret := none) (by decide) rfl ?_
  intro p e s m args below meth c s₁ B hml hv
  obtain ⟨rfl, hsz, hP, hK, hD0⟩ := hv
  have hx := B.exec
  have hb := B.bytes
  have hr := B.returns
  have ht := tb_tl (atoms_spec (ws := wc yX10_weigh cX10_weigh 5 none) B.pre)
  have hown : s.vm.findClass RX10 = some m.cls := findClass_of_methodNamed B.named
  have hlocks := B.notSynchronized
  subst hsz
  have hD := hD0.self (sz := s.heap.size)
  generalize hAe : va_A (WX h g ca iv lv fa la) s.heap.size = A at hD ⊢
  have hA : ∀ q : Nat, s.heap.size ≤ q → A q := fun q h => by rw [← hAe]; exact Or.inr h
  have hS : va_S A s.heap s.heap [] := va_S.rf
  have hl := lv_entry [.ref (g 11 0), .int a, .int b, .int d, .int k] (n := 5) (Nat.le_of_ble_eq_true rfl)
  rw [lg_entry_eq]
  generalize (lg_sl [.ref (g 11 0), .int a, .int b, .int d, .int k] ++ List.replicate (5 - (lg_sl [.ref (g 11 0), .int a, .int b, .int d, .int k]).length) Slot.unset).toArray = ls at hl ⊢
  have hl : lv_has ls 5 [(0, .ref (g 11 0)), (1, .int a), (2, .int b), (3, .int d), (4, .int k)] := hl
  refine lv_aload_n hx hb dX10_weigh_0 rfl (lv_at hl 0 rfl) ?_
  refine lv_iload_n hx hb dX10_weigh_1 rfl (lv_at hl 1 rfl) ?_
  refine lv_iconst (v := 2) hx hb dX10_weigh_2 (by decide) ?_
  refine lv_iload_n hx hb dX10_weigh_3 rfl (lv_at hl 2 rfl) ?_
  have hFc := free_all hD hS hA
  refine va_callv (va_runV (As := [.int a, .int 2, .int b]) (rest := []) ⟨hx, hb, hml, hown, ht⟩ (c_X10_set_x2 l dC dI s.heap.size h g ca iv lv fa la hI a b ⟨by omega, by omega⟩) (kV 3 ht m_493 m_495 m_0 m_78 m_496 rfl rfl hd_X10_set_v ⟨Nat.le_of_ble_eq_true rfl, Nat.le_of_ble_eq_true rfl⟩) (vW hP hK hD (rX_10 hK hP)) rfl rfl hl.1 rfl (lv_room (Nat.le_of_ble_eq_true rfl)) dX10_weigh_4 ⟨Nat.le_of_ble_eq_true rfl, Nat.le_of_ble_eq_true rfl⟩) hS (fun q _ h => hFc q h) hFc (fun u t H1 locs ht9 hvm hr1 hB hz1 hk1 hS => ?_)
  obtain ⟨n2, hn2, xr1_0, xr1_1, rfl⟩ := hr1
  obtain ⟨hP, hD⟩ := hB
  rw [ht9] at hP
  generalize H1 = H at hP hS ⊢
  have hP : va_P (dC, dI) classes (WX h g ca iv lv (u2 fa 10 0 n2) la) H := hP
  have hD : va_D A (WX h g ca iv lv (u2 fa 10 0 n2) la) := (show va_D _ (WX h g ca iv lv (u2 fa 10 0 n2) la) from hD).weaken (fun _ _ _ h => hFc _ h)
  have xr1_0 : ∀ j : Nat, j ≠ (9 * ((a : Int32).toInt).toNat + 2) → n2 j = (fa 10 0) j := xr1_0
  have xr1_1 : n2 (9 * ((a : Int32).toInt).toNat + 2) = (b : Int32) := xr1_1
  refine lv_aload_n hx hb dX10_weigh_7 rfl (lv_at hl 0 rfl) ?_
  refine lv_iload_n hx hb dX10_weigh_8 rfl (lv_at hl 1 rfl) ?_
  refine lv_iconst (v := 3) hx hb dX10_weigh_9 (by decide) ?_
  refine lv_iload_n hx hb dX10_weigh_10 rfl (lv_at hl 3 rfl) ?_
  have hFc := free_all hD hS hA
  refine va_callv (va_runV (As := [.int a, .int 3, .int d]) (rest := []) ⟨hx, hb, hml, hown, ht⟩ (c_X10_set_x3 l dC dI H.size h g ca iv lv (u2 fa 10 0 n2) la (IX_a (c := 10) (k := 0) hI hn2) a d ⟨by omega, by omega⟩) (kV 3 ht m_493 m_495 m_0 m_78 m_496 rfl rfl hd_X10_set_v ⟨Nat.le_of_ble_eq_true rfl, Nat.le_of_ble_eq_true rfl⟩) (vW hP hK hD (rX_10 hK hP)) rfl rfl hl.1 rfl (lv_room (Nat.le_of_ble_eq_true rfl)) dX10_weigh_11 ⟨Nat.le_of_ble_eq_true rfl, Nat.le_of_ble_eq_true rfl⟩) hS (fun q _ h => hFc q h) hFc (fun u t H1 locs ht9 hvm hr3 hB hz1 hk1 hS => ?_)
  obtain ⟨n4, hn4, xr3_0, xr3_1, rfl⟩ := hr3
  obtain ⟨hP, hD⟩ := hB
  rw [ht9] at hP
  generalize H1 = H at hP hS ⊢
  have hP : va_P (dC, dI) classes (WX h g ca iv lv (u2 fa 10 0 n4) la) H := hP
  have hD : va_D A (WX h g ca iv lv (u2 fa 10 0 n4) la) := (show va_D _ (WX h g ca iv lv (u2 fa 10 0 n4) la) from hD).weaken (fun _ _ _ h => hFc _ h)
  have xr3_0 : ∀ j : Nat, j ≠ (9 * ((a : Int32).toInt).toNat + 3) → n4 j = n2 j := xr3_0
  have xr3_1 : n4 (9 * ((a : Int32).toInt).toNat + 3) = (d : Int32) := xr3_1
  refine lv_aload_n hx hb dX10_weigh_14 rfl (lv_at hl 0 rfl) ?_
  refine lv_iload_n hx hb dX10_weigh_15 rfl (lv_at hl 1 rfl) ?_
  refine lv_iconst (v := 4) hx hb dX10_weigh_16 (by decide) ?_
  refine lv_iload hx hb dX10_weigh_17 (lv_at hl 4 rfl) ?_
  have hFc := free_all hD hS hA
  refine va_callv (va_runV (As := [.int a, .int 4, .int k]) (rest := []) ⟨hx, hb, hml, hown, ht⟩ (c_X10_set_x4 l dC dI H.size h g ca iv lv (u2 fa 10 0 n4) la (IX_a (c := 10) (k := 0) hI hn4) a k ⟨by omega, by omega⟩) (kV 3 ht m_493 m_495 m_0 m_78 m_496 rfl rfl hd_X10_set_v ⟨Nat.le_of_ble_eq_true rfl, Nat.le_of_ble_eq_true rfl⟩) (vW hP hK hD (rX_10 hK hP)) rfl rfl hl.1 rfl (lv_room (Nat.le_of_ble_eq_true rfl)) dX10_weigh_19 ⟨Nat.le_of_ble_eq_true rfl, Nat.le_of_ble_eq_true rfl⟩) hS (fun q _ h => hFc q h) hFc (fun u t H1 locs ht9 hvm hr5 hB hz1 hk1 hS => ?_)
  obtain ⟨n6, hn6, xr5_0, xr5_1, rfl⟩ := hr5
  obtain ⟨hP, hD⟩ := hB
  rw [ht9] at hP
  generalize H1 = H at hP hS ⊢
  have hP : va_P (dC, dI) classes (WX h g ca iv lv (u2 fa 10 0 n6) la) H := hP
  have hD : va_D A (WX h g ca iv lv (u2 fa 10 0 n6) la) := (show va_D _ (WX h g ca iv lv (u2 fa 10 0 n6) la) from hD).weaken (fun _ _ _ h => hFc _ h)
  have xr5_0 : ∀ j : Nat, j ≠ (9 * ((a : Int32).toInt).toNat + 4) → n6 j = n4 j := xr5_0
  have xr5_1 : n6 (9 * ((a : Int32).toInt).toNat + 4) = (k : Int32) := xr5_1
  have hP9 : va_P (dC, dI) classes (WX h g ca iv lv (u2 fa 10 0 n6) la) H := hP
  have hD9 : va_D A (WX h g ca iv lv (u2 fa 10 0 n6) la) := hD
  exact W.vret hx hb hr (fun t ht9 hW => ⟨⟨(iv, lv, (u2 fa 10 0 n6), la), rfl, ⟨n6, hn6, (show ∀ j : Nat, (j ≠ (9 * ((a).toInt).toNat + 2) ∧ j ≠ (9 * ((a).toInt).toNat + 3) ∧ j ≠ (9 * ((a).toInt).toNat + 4)) → n6 j = (fa 10 0) j from fun j hj => by rw [xr5_0 j (by omega), xr3_0 j (by omega), xr1_0 j (by omega)]), (show n6 (9 * ((a).toInt).toNat + 2) = b from (by rw [xr5_0 (9 * (a.toInt).toNat + 2) (by omega), xr3_0 (9 * (a.toInt).toNat + 2) (by omega)]; exact xr1_1)), (show n6 (9 * ((a).toInt).toNat + 3) = d from (by rw [xr5_0 (9 * (a.toInt).toNat + 3) (by omega)]; exact xr3_1)), (show n6 (9 * ((a).toInt).toNat + 4) = k from (by exact xr5_1)), rfl⟩, by rw [ht9]; exact hP9, hD9⟩, hS.F ht9⟩) hS.2.2 dX10_weigh_22
set_option maxHeartbeats 4000000 in
set_option maxRecDepth 100000 in
/-- X10_dryIn -/
theorem c_X10_dryIn_x (l : Launch) (dC : Nat → ClassId) (dI : Nat → Nat → Nat) (sz : Nat) (h : Nat) (g : Nat → Nat → Nat) (ca : Nat → Nat → ClassId) (iv : Nat → Nat → Int32) (lv : Nat → Nat → Int64) (fa : Nat → Nat → Nat → Int32) (la : Nat → Nat → Nat → Int64) (hI : IX iv fa) (a : Int32) (b : Int32) (d : Int32) (h_a : 0 ≤ a.toInt ∧ a.toInt ≤ 59) : Met l yX10_dryIn (wc yX10_dryIn cX10_dryIn 4 none) ({ frames := 1, cells := 0, slots := 0, locals := 23 } : Room) (pW (dC, dI) classes (WX h g ca iv lv fa la) (TX ca) sz [.ref (g 11 0), .int a, .int b, .int d]) (va_Qv (fun (u : SS) => ∃ (na_10_0 : Nat → Int32), (∀ j, inb (bA 10 0 j) (na_10_0 j)) ∧ (∀ j : Nat, (j ≠ (9 * (a.toInt).toNat + 5) ∧ j ≠ (9 * (a.toInt).toNat + 6)) → na_10_0 j = (fa 10 0) j) ∧ (na_10_0 (9 * (a.toInt).toNat + 5) = b) ∧ (na_10_0 (9 * (a.toInt).toNat + 6) = d) ∧ u = (iv, lv, (u2 fa 10 0 na_10_0), la)) (bX (dC, dI) h g ca (va_A (WX h g ca iv lv fa la) sz)) (va_A (WX h g ca iv lv fa la) sz)) 0 0 (va_A (WX h g ca iv lv fa la) sz) := by
  refine Met.ofW (cc := cX10_dryIn) (maxL := 4) (ret := none) (by decide) rfl ?_
  intro p e s m args below meth c s₁ B hml hv
  obtain ⟨rfl, hsz, hP, hK, hD0⟩ := hv
  have hx := B.exec
  have hb := B.bytes
  have hr := B.returns
  have ht := tb_tl (atoms_spec (ws := wc yX10_dryIn cX10_dryIn 4 none) B.pre)
  have hown : s.vm.findClass RX10 = some m.cls := findClass_of_methodNamed B.named
  have hlocks := B.notSynchronized
  subst hsz
  have hD := hD0.self (sz := s.heap.size)
  generalize hAe : va_A (WX h g ca iv lv fa la) s.heap.size = A at hD ⊢
  have hA : ∀ q : Nat, s.heap.size ≤ q → A q := fun q h => by rw [← hAe]; exact Or.inr h
  have hS : va_S A s.heap s.heap [] := va_S.rf
  have hl := lv_entry [.ref (g 11 0), .int a, .int b, .int d] (n := 4) (Nat.le_of_ble_eq_true rfl)
  rw [lg_entry_eq]
  generalize (lg_sl [.ref (g 11 0), .int a, .int b, .int d] ++ List.replicate (4 - (lg_sl [.ref (g 11 0), .int a, .int b, .int d]).length) Slot.unset).toArray = ls at hl ⊢
  have hl : lv_has ls 4 [(0, .ref (g 11 0)), (1, .int a), (2, .int b), (3, .int d)] := hl
  refine lv_aload_n hx hb dX10_dryIn_0 rfl (lv_at hl 0 rfl) ?_
  refine lv_iload_n hx hb dX10_dryIn_1 rfl (lv_at hl 1 rfl) ?_
  refine lv_iconst (v := 5) hx hb dX10_dryIn_2 (by decide) ?_
  refine lv_iload_n hx hb dX10_dryIn_3 rfl (lv_at hl 2 rfl) ?_
  have hFc := free_all hD hS hA
  refine va_callv (va_runV (As := [.int a, .int 5, .int b]) (rest := []) ⟨hx, hb, hml, hown, ht⟩ (c_X10_set_x5 l dC dI s.heap.size h g ca iv lv fa la hI a b ⟨by omega, by omega⟩) (kV 3 ht m_493 m_495 m_0 m_78 m_496 rfl rfl hd_X10_set_v ⟨Nat.le_of_ble_eq_true rfl, Nat.le_of_ble_eq_true rfl⟩) (vW hP hK hD (rX_10 hK hP)) rfl rfl hl.1 rfl (lv_room (Nat.le_of_ble_eq_true rfl)) dX10_dryIn_4 ⟨Nat.le_of_ble_eq_true rfl, Nat.le_of_ble_eq_true rfl⟩) hS (fun q _ h => hFc q h) hFc (fun u t H1 locs ht9 hvm hr1 hB hz1 hk1 hS => ?_)
  obtain ⟨n2, hn2, xr1_0, xr1_1, rfl⟩ := hr1
  obtain ⟨hP, hD⟩ := hB
  rw [ht9] at hP
  generalize H1 = H at hP hS ⊢
  have hP : va_P (dC, dI) classes (WX h g ca iv lv (u2 fa 10 0 n2) la) H := hP
  have hD : va_D A (WX h g ca iv lv (u2 fa 10 0 n2) la) := (show va_D _ (WX h g ca iv lv (u2 fa 10 0 n2) la) from hD).weaken (fun _ _ _ h => hFc _ h)
  have xr1_0 : ∀ j : Nat, j ≠ (9 * ((a : Int32).toInt).toNat + 5) → n2 j = (fa 10 0) j := xr1_0
  have xr1_1 : n2 (9 * ((a : Int32).toInt).toNat + 5) = (b : Int32) := xr1_1
  refine lv_aload_n hx hb dX10_dryIn_7 rfl (lv_at hl 0 rfl) ?_
  refine lv_iload_n hx hb dX10_dryIn_8 rfl (lv_at hl 1 rfl) ?_
  refine lv_bipush (v := 6) hx hb dX10_dryIn_9 (by decide) ?_
  refine lv_iload_n hx hb dX10_dryIn_11 rfl (lv_at hl 3 rfl) ?_
  have hFc := free_all hD hS hA
  refine va_callv (va_runV (As := [.int a, .int 6, .int d]) (rest := []) ⟨hx, hb, hml, hown, ht⟩ (c_X10_set_x6 l dC dI H.size h g ca iv lv (u2 fa 10 0 n2) la (IX_a (c := 10) (k := 0) hI hn2) a d ⟨by omega, by omega⟩) (kV 3 ht m_493 m_495 m_0 m_78 m_496 rfl rfl hd_X10_set_v ⟨Nat.le_of_ble_eq_true rfl, Nat.le_of_ble_eq_true rfl⟩) (vW hP hK hD (rX_10 hK hP)) rfl rfl hl.1 rfl (lv_room (Nat.le_of_ble_eq_true rfl)) dX10_dryIn_12 ⟨Nat.le_of_ble_eq_true rfl, Nat.le_of_ble_eq_true rfl⟩) hS (fun q _ h => hFc q h) hFc (fun u t H1 locs ht9 hvm hr3 hB hz1 hk1 hS => ?_)
  obtain ⟨n4, hn4, xr3_0, xr3_1, rfl⟩ := hr3
  obtain ⟨hP, hD⟩ := hB
  rw [ht9] at hP
  generalize H1 = H at hP hS ⊢
  have hP : va_P (dC, dI) classes (WX h g ca iv lv (u2 fa 10 0 n4) la) H := hP
  have hD : va_D A (WX h g ca iv lv (u2 fa 10 0 n4) la) := (show va_D _ (WX h g ca iv lv (u2 fa 10 0 n4) la) from hD).weaken (fun _ _ _ h => hFc _ h)
  have xr3_0 : ∀ j : Nat, j ≠ (9 * ((a : Int32).toInt).toNat + 6) → n4 j = n2 j := xr3_0
  have xr3_1 : n4 (9 * ((a : Int32).toInt).toNat + 6) = (d : Int32) := xr3_1
  have hP9 : va_P (dC, dI) classes (WX h g ca iv lv (u2 fa 10 0 n4) la) H := hP
  have hD9 : va_D A (WX h g ca iv lv (u2 fa 10 0 n4) la) := hD
  exact W.vret hx hb hr (fun t ht9 hW => ⟨⟨(iv, lv, (u2 fa 10 0 n4), la), rfl, ⟨n4, hn4, (show ∀ j : Nat, (j ≠ (9 * ((a).toInt).toNat + 5) ∧ j ≠ (9 * ((a).toInt).toNat + 6)) → n4 j = (fa 10 0) j from fun j hj => by rw [xr3_0 j (by omega), xr1_0 j (by omega)]), (show n4 (9 * ((a).toInt).toNat + 5) = b from (by rw [xr3_0 (9 * (a.toInt).toNat + 5) (by omega)]; exact xr1_1)), (show n4 (9 * ((a).toInt).toNat + 6) = d from (by exact xr3_1)), rfl⟩, by rw [ht9]; exact hP9, hD9⟩, hS.F ht9⟩) hS.2.2 dX10_dryIn_15
set_option maxHeartbeats 4000000 in
set_option maxRecDepth 100000 in
/-- X10_dropOut -/
theorem c_X10_dropOut_x (l : Launch) (dC : Nat → ClassId) (dI : Nat → Nat → Nat) (sz : Nat) (h : Nat) (g : Nat → Nat → Nat) (ca : Nat → Nat → ClassId) (iv : Nat → Nat → Int32) (lv : Nat → Nat → Int64) (fa : Nat → Nat → Nat → Int32) (la : Nat → Nat → Nat → Int64) (hI : IX iv fa) (a : Int32) (b : Int32) (h_a : 0 ≤ a.toInt ∧ a.toInt ≤ 59) : Met l yX10_dropOut (wc yX10_dropOut cX10_dropOut 3 none) ({ frames := 1, cells := 0, slots := 0, locals := 23 } : Room) (pW (dC, dI) classes (WX h g ca iv lv fa la) (TX ca) sz [.ref (g 11 0), .int a, .int b]) (va_Qv (fun (u : SS) => ∃ (na_10_0 : Nat → Int32) (ni_10_2 : Int32), (∀ j, inb (bA 10 0 j) (na_10_0 j)) ∧ (∀ j : Nat, (j ≠ (9 * (a.toInt).toNat + 8)) → na_10_0 j = (fa 10 0) j) ∧ (na_10_0 (9 * (a.toInt).toNat + 8) = b) ∧ u = ((u2 iv 10 2 ni_10_2), lv, (u2 fa 10 0 na_10_0), la)) (bX (dC, dI) h g ca (va_A (WX h g ca iv lv fa la) sz)) (va_A (WX h g ca iv lv fa la) sz)) 0 0 (va_A (WX h g ca iv lv fa la) sz) := by
  refine Met.ofW (cc := cX10_dropOut) (maxL := 3) (ret := none) (by decide) rfl ?_
  intro p e s m args below meth c s₁ B hml hv
  obtain ⟨rfl, hsz, hP, hK, hD0⟩ := hv
  have hx := B.exec
  have hb := B.bytes
  have hr := B.returns
  have ht := tb_tl (atoms_spec (ws := wc yX10_dropOut cX10_dropOut 3 none) B.pre)
  have hown : s.vm.findClass RX10 = some m.cls := findClass_of_methodNamed B.named
  have hlocks := B.notSynchronized
  subst hsz
  have hD := hD0.self (sz := s.heap.size)
  generalize hAe : va_A (WX h g ca iv lv fa la) s.heap.size = A at hD ⊢
  have hA : ∀ q : Nat, s.heap.size ≤ q → A q := fun q h => by rw [← hAe]; exact Or.inr h
  have hS : va_S A s.heap s.heap [] := va_S.rf
  have hl := lv_entry [.ref (g 11 0), .int a, .int b] (n := 3) (Nat.le_of_ble_eq_true rfl)
  rw [lg_entry_eq]
  generalize (lg_sl [.ref (g 11 0), .int a, .int b] ++ List.replicate (3 - (lg_sl [.ref (g 11 0), .int a, .int b]).length) Slot.unset).toArray = ls at hl ⊢
  have hl : lv_has ls 3 [(0, .ref (g 11 0)), (1, .int a), (2, .int b)] := hl
  refine lv_aload_n hx hb dX10_dropOut_0 rfl (lv_at hl 0 rfl) ?_
  refine lv_iload_n hx hb dX10_dropOut_1 rfl (lv_at hl 1 rfl) ?_
  refine lv_bipush (v := 8) hx hb dX10_dropOut_2 (by decide) ?_
  refine lv_iload_n hx hb dX10_dropOut_4 rfl (lv_at hl 2 rfl) ?_
  have hFc := free_all hD hS hA
  refine va_callv (va_runV (As := [.int a, .int 8, .int b]) (rest := []) ⟨hx, hb, hml, hown, ht⟩ (c_X10_set_x8 l dC dI s.heap.size h g ca iv lv fa la hI a b ⟨by omega, by omega⟩) (kV 3 ht m_493 m_495 m_0 m_78 m_496 rfl rfl hd_X10_set_v ⟨Nat.le_of_ble_eq_true rfl, Nat.le_of_ble_eq_true rfl⟩) (vW hP hK hD (rX_10 hK hP)) rfl rfl hl.1 rfl (lv_room (Nat.le_of_ble_eq_true rfl)) dX10_dropOut_5 ⟨Nat.le_of_ble_eq_true rfl, Nat.le_of_ble_eq_true rfl⟩) hS (fun q _ h => hFc q h) hFc (fun u t H1 locs ht9 hvm hr1 hB hz1 hk1 hS => ?_)
  obtain ⟨n2, hn2, xr1_0, xr1_1, rfl⟩ := hr1
  obtain ⟨hP, hD⟩ := hB
  rw [ht9] at hP
  generalize H1 = H at hP hS ⊢
  have hP : va_P (dC, dI) classes (WX h g ca iv lv (u2 fa 10 0 n2) la) H := hP
  have hD : va_D A (WX h g ca iv lv (u2 fa 10 0 n2) la) := (show va_D _ (WX h g ca iv lv (u2 fa 10 0 n2) la) from hD).weaken (fun _ _ _ h => hFc _ h)
  have xr1_0 : ∀ j : Nat, j ≠ (9 * ((a : Int32).toInt).toNat + 8) → n2 j = (fa 10 0) j := xr1_0
  have xr1_1 : n2 (9 * ((a : Int32).toInt).toNat + 8) = (b : Int32) := xr1_1
  refine lv_aload_n hx hb dX10_dropOut_8 rfl (lv_at hl 0 rfl) ?_
  refine lv_dup hx hb dX10_dropOut_9 rfl ?_
  refine gX_10_2 hx hb ht hown hK hP m_116 (v := (iv 10 2)) rfl dX10_dropOut_10 ?_
  refine lv_iconst (v := 1) hx hb dX10_dropOut_13 (by decide) ?_
  refine lv_iadd hx hb dX10_dropOut_14 ?_
  refine lv_topi (fun v3 ev3 => ?_)
  refine pX_10_2 (v := v3) hx hb ht hown hK hP hD hS m_116 dX10_dropOut_15 (fun H locs hP hD hS => ?_)
  have hP9 : va_P (dC, dI) classes (WX h g ca (u2 iv 10 2 v3) lv (u2 fa 10 0 n2) la) H := hP
  have hD9 : va_D A (WX h g ca (u2 iv 10 2 v3) lv (u2 fa 10 0 n2) la) := hD
  exact W.vret hx hb hr (fun t ht9 hW => ⟨⟨((u2 iv 10 2 v3), lv, (u2 fa 10 0 n2), la), rfl, ⟨n2, v3, hn2, (show ∀ j : Nat, (j ≠ (9 * ((a).toInt).toNat + 8)) → n2 j = (fa 10 0) j from fun j hj => by rw [xr1_0 j (by omega)]), (show n2 (9 * ((a).toInt).toNat + 8) = b from (by exact xr1_1)), rfl⟩, by rw [ht9]; exact hP9, hD9⟩, hS.F ht9⟩) hS.2.2 dX10_dropOut_18
