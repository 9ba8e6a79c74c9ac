def NL : List (String × Nat × MethodName × String) := [(RX11, 9, yX10_init, RX11), (RX11, 18, yX9_init, RX11), (RX11, 25, yX0_init, RX11), (RX11, 32, yX1_init, RX11), (RX3, 9, yX7_init, RX11), (RX2, 11, yX7_init, RX11), (RX11, 66, yX5_init, RX11), (RX11, 73, yX4_init, RX11), (RX11, 80, yX6_init, RX11), (RX8, 120, yX11_within, RX11), (RX2, 92, yX11_within, RX11)]
def nw (U : State) : Prop := ∀ q ∈ NL, va_Nw (.methodLinkNest q.1 q.2.1 q.2.2.1 q.2.2.2) U
theorem sWN {D : va_G} {cl : List vw_C} {ws : va_W} {tys : List (ClassId × FieldType)} {A : Nat → Prop} {s : State} {H : Heap} {As : List Value} (hP : va_P D cl ws H) (hK : va_K D cl tys s) (hD : va_D A ws) (hN : nw s) : PreS s H (va_Pc As (fun U => U.heap.size = H.size ∧ va_P D cl ws U.heap ∧ va_K D cl tys U ∧ va_D (fun _ => True) ws ∧ nw U)) As :=
  ⟨fun a U g mk q => ⟨q.1, q.2.1, q.2.2.1, va_K.moved (u := U) (U := U.calling g mk a) (Vm.Alike.refl U.vm) q.2.2.2.1, q.2.2.2.2.1, fun w hw => va_Nw.same rfl rfl (q.2.2.2.2.2 w hw)⟩, fun U hU hW => ⟨rfl, by rw [hU], by rw [hU]; exact hP, va_K.moved hW.alike hK, hD.weaken (fun _ _ _ _ => trivial), fun w hw => va_Nw.warmM hW (hN w hw)⟩⟩
set_option maxRecDepth 100000 in
theorem nw_of {args : Array Value} {s : State} (h : ∀ w ∈ lw_tbl, w.before args s = true) : nw s := by
  intro q hq
  simp only [NL, List.mem_cons, List.not_mem_nil, or_false] at hq
  rcases hq with rfl | rfl | rfl | rfl | rfl | rfl | rfl | rfl | rfl | rfl | rfl
  · exact va_Nw.of rfl (h _ (List.mem_of_getElem? (i := 107) rfl))
  · exact va_Nw.of rfl (h _ (List.mem_of_getElem? (i := 128) rfl))
  · exact va_Nw.of rfl (h _ (List.mem_of_getElem? (i := 148) rfl))
  · exact va_Nw.of rfl (h _ (List.mem_of_getElem? (i := 185) rfl))
  · exact va_Nw.of rfl (h _ (List.mem_of_getElem? (i := 257) rfl))
  · exact va_Nw.of rfl (h _ (List.mem_of_getElem? (i := 303) rfl))
  · exact va_Nw.of rfl (h _ (List.mem_of_getElem? (i := 331) rfl))
  · exact va_Nw.of rfl (h _ (List.mem_of_getElem? (i := 362) rfl))
  · exact va_Nw.of rfl (h _ (List.mem_of_getElem? (i := 379) rfl))
  · exact va_Nw.of rfl (h _ (List.mem_of_getElem? (i := 774) rfl))
  · exact va_Nw.of rfl (h _ (List.mem_of_getElem? (i := 908) rfl))
set_option maxHeartbeats 4000000 in
set_option maxRecDepth 100000 in
/-- X10_init -/
theorem c_X10_init (l : Launch) (dC : Nat → ClassId) (dI : Nat → Nat → Nat) (sz : Nat) (h : Nat) : Met l yX10_init (wc yX10_init cX10_init 1 none) ({ frames := 1, cells := 1, slots := 540, locals := 40 } : Room) (pW (dC, dI) classes [(h, .inr (10, [.null, .int 0, .int 0]))] [] sz [.ref h]) (va_Qv (fun _ : ((Nat → Nat → Nat) × (Nat → Nat → ClassId)) => True) (fun u t => va_P (dC, dI) classes [(h, .inr (10, [.ref (u.1 10 0), .int 0, .int 0])), ((u.1 10 0), .inl ((u.2 10 0), 540, .inl (fun _ => 0)))] t.heap ∧ va_K (dC, dI) classes [((u.2 10 0), .int)] t ∧ va_D (va_A [(h, .inr (10, [.null, .int 0, .int 0]))] sz) [(h, .inr (10, [.ref (u.1 10 0), .int 0, .int 0])), ((u.1 10 0), .inl ((u.2 10 0), 540, .inl (fun _ => 0)))]) (va_A [(h, .inr (10, [.null, .int 0, .int 0]))] sz)) 1 540 (va_A [(h, .inr (10, [.null, .int 0, .int 0]))] sz) := by
  refine Met.ofW (cc := cX10_init) (maxL := 1) (ret := none) (by decide) rfl ?_
  intro p e s m args below meth c s₁ B hml hv
  obtain ⟨rfl, hsz, hP, hK, hD0⟩ := hv
  have hx := B.exec
  have hb := B.bytes
  have hr := B.returns
  have ht := tb_tl (atoms_spec (ws := wc yX10_init cX10_init 1 none) B.pre)
  have hown : s.vm.findClass RX10 = some m.cls := findClass_of_methodNamed B.named
  have hlocks := B.notSynchronized
  have hin : meth.name = "<init>" := (name_of_methodNamed B.named B.method).1
  subst hsz
  have hD := hD0.self (sz := s.heap.size)
  generalize hAe : va_A [(h, .inr (10, [.null, .int 0, .int 0]))] s.heap.size = A at hD ⊢
  have hA : ∀ q : Nat, s.heap.size ≤ q → A q := fun q h => by rw [← hAe]; exact Or.inr h
  have hS : va_S A s.heap s.heap [] := va_S.rf
  have hP : va_P (dC, dI) classes [(h, .inr (10, [.null, .int 0, .int 0]))] s.heap := hP
  have hl := lv_entry [.ref h] (n := 1) (Nat.le_of_ble_eq_true rfl)
  rw [lg_entry_eq]
  generalize (lg_sl [.ref h] ++ List.replicate (1 - (lg_sl [.ref h]).length) Slot.unset).toArray = ls at hl ⊢
  have hl : lv_has ls 1 [(0, .ref h)] := hl
  refine lv_aload_n hx hb dX10_init_0 rfl (lv_at hl 0 rfl) ?_
  refine W.objInit hx hb hown (ht _ m_110) (ht _ m_103) (ht _ m_104) rfl (by rw [hml]; exact hl.1) rfl dX10_init_1 (Nat.le_of_ble_eq_true rfl) (Nat.le_of_ble_eq_true rfl) ?_
  refine W.eq (g2 := F0 m 4 ls []) rfl ?_
  refine lv_aload_n hx hb dX10_init_4 rfl (lv_at hl 0 rfl) ?_
  refine lv_sipush (v := 540) hx hb dX10_init_5 (by decide) ?_
  refine va_newa (atype := .int) (ty := .int) (a0 := (540, .inl (fun _ => 0))) (N' := 540) hx hb (ht _ m_125) rfl hK hP hD hS hA (fun _ => rfl) (by decide) (by decide) (by decide) (Nat.le_of_ble_eq_true rfl) (Nat.le_of_ble_eq_true rfl) dX10_init_8 (fun q1 ca2 H hK hP hD hS => ?_)
  have hP : va_P (dC, dI) classes [(h, .inr (10, [.null, .int 0, .int 0])), (q1, .inl (ca2, 540, .inl (fun _ => 0)))] H := hP
  have hD : va_D A [(h, .inr (10, [.null, .int 0, .int 0])), (q1, .inl (ca2, 540, .inl (fun _ => 0)))] := hD
  have hK : va_K (dC, dI) classes [(ca2, .int)] s := hK
  refine W.widen (k := 1) (n := 540) (by decide) (by decide) ?_
  refine va_putF (D := (dC, dI)) (ci := 10) (v := .ref q1) (ty := (.array .int)) (C := RX10) (T := TX10) (N := 3) hx hb ht inX10 tyX10 tyX10_ok nmX10 hown hK hP hD hS 0 rfl rfl 0 (by decide) (ht _ m_111) (fun _ h9 => h9) rfl hin rfl (by decide +kernel) rfl rfl (Nat.le_of_ble_eq_true rfl) dX10_init_10 (fun H locs hP hD hS => ?_)
  have hP : va_P (dC, dI) classes [(h, .inr (10, [.ref q1, .int 0, .int 0])), (q1, .inl (ca2, 540, .inl (fun _ => 0)))] H := hP
  have hD : va_D A [(h, .inr (10, [.ref q1, .int 0, .int 0])), (q1, .inl (ca2, 540, .inl (fun _ => 0)))] := hD
  refine lv_aload_n hx hb dX10_init_13 rfl (lv_at hl 0 rfl) ?_
  refine lv_iconst (v := 0) hx hb dX10_init_14 (by decide) ?_
  refine va_put (D := (dC, dI)) (ci := 10) (v := .int 0) (ty := (.int)) (C := RX10) (T := TX10) (N := 3) hx hb ht inX10 tyX10 tyX10_ok nmX10 hown hK hP hD hS 0 rfl rfl 1 (by decide) (ht _ m_112) (fun _ h9 => h9) rfl (by decide +kernel) rfl rfl (Nat.le_of_ble_eq_true rfl) dX10_init_15 (fun H locs hP hD hS => ?_)
  have hP : va_P (dC, dI) classes [(h, .inr (10, [.ref q1, .int 0, .int 0])), (q1, .inl (ca2, 540, .inl (fun _ => 0)))] H := hP
  have hD : va_D A [(h, .inr (10, [.ref q1, .int 0, .int 0])), (q1, .inl (ca2, 540, .inl (fun _ => 0)))] := hD
  refine lv_aload_n hx hb dX10_init_18 rfl (lv_at hl 0 rfl) ?_
  refine lv_iconst (v := 0) hx hb dX10_init_19 (by decide) ?_
  refine va_put (D := (dC, dI)) (ci := 10) (v := .int 0) (ty := (.int)) (C := RX10) (T := TX10) (N := 3) hx hb ht inX10 tyX10 tyX10_ok nmX10 hown hK hP hD hS 0 rfl rfl 2 (by decide) (ht _ m_116) (fun _ h9 => h9) rfl (by decide +kernel) rfl rfl (Nat.le_of_ble_eq_true rfl) dX10_init_20 (fun H locs hP hD hS => ?_)
  have hP : va_P (dC, dI) classes [(h, .inr (10, [.ref q1, .int 0, .int 0])), (q1, .inl (ca2, 540, .inl (fun _ => 0)))] H := hP
  have hD : va_D A [(h, .inr (10, [.ref q1, .int 0, .int 0])), (q1, .inl (ca2, 540, .inl (fun _ => 0)))] := hD
  have hP9 := hP.sub (ws' := [(h, .inr (10, [.ref q1, .int 0, .int 0])), (q1, .inl (ca2, 540, .inl (fun _ => 0)))]) [0, 1] rfl
  have hD9 := hD.sub (ws' := [(h, .inr (10, [.ref q1, .int 0, .int 0])), (q1, .inl (ca2, 540, .inl (fun _ => 0)))]) [0, 1] (by decide) rfl
  have hK9 := hK.sub (tys' := [(ca2, .int)]) [0] rfl
  obtain ⟨u9, hu9⟩ : ∃ u : (Nat → Nat → Nat) × (Nat → Nat → ClassId), u = ((fun i j => (([[], [], [], [], [], [], [], [], [], [], [q1]] : List (List _)).getD i []).getD j 0), (fun i j => (([[], [], [], [], [], [], [], [], [], [], [ca2]] : List (List _)).getD i []).getD j ca2)) := ⟨_, rfl⟩
  have hB9 : ∀ t : State, t.heap = H → s.WarmedH t.vm → (fun u t => va_P (dC, dI) classes [(h, .inr (10, [.ref (u.1 10 0), .int 0, .int 0])), ((u.1 10 0), .inl ((u.2 10 0), 540, .inl (fun _ => 0)))] t.heap ∧ va_K (dC, dI) classes [((u.2 10 0), .int)] t ∧ va_D A [(h, .inr (10, [.ref (u.1 10 0), .int 0, .int 0])), ((u.1 10 0), .inl ((u.2 10 0), 540, .inl (fun _ => 0)))]) u9 t := by
    intro t ht9 hW
    rw [hu9]
    exact ⟨by rw [ht9]; exact hP9, va_K.moved hW.alike hK9, hD9⟩
  exact W.vret hx hb hr (fun t ht9 hW => ⟨⟨u9, rfl, trivial, hB9 t ht9 hW⟩, hS.F ht9⟩) hS.2.2 dX10_init_23
set_option maxHeartbeats 4000000 in
set_option maxRecDepth 100000 in
/-- X9_init -/
theorem c_X9_init (l : Launch) (dC : Nat → ClassId) (dI : Nat → Nat → Nat) (sz : Nat) (h : Nat) : Met l yX9_init (wc yX9_init cX9_init 1 none) ({ frames := 1, cells := 3, slots := 90, locals := 40 } : Room) (pW (dC, dI) classes [(h, .inr (9, [.null, .null, .null, .int 0]))] [] sz [.ref h]) (va_Qv (fun _ : ((Nat → Nat → Nat) × (Nat → Nat → ClassId)) => True) (fun u t => va_P (dC, dI) classes [(h, .inr (9, [.ref (u.1 9 0), .ref (u.1 9 1), .ref (u.1 9 2), .int 0])), ((u.1 9 0), .inl ((u.2 9 0), 30, .inl (fun _ => 0))), ((u.1 9 1), .inl ((u.2 9 1), 30, .inl (fun _ => 0))), ((u.1 9 2), .inl ((u.2 9 2), 30, .inl (fun _ => 0)))] t.heap ∧ va_K (dC, dI) classes [((u.2 9 0), .int), ((u.2 9 1), .int), ((u.2 9 2), .int)] t ∧ va_D (va_A [(h, .inr (9, [.null, .null, .null, .int 0]))] sz) [(h, .inr (9, [.ref (u.1 9 0), .ref (u.1 9 1), .ref (u.1 9 2), .int 0])), ((u.1 9 0), .inl ((u.2 9 0), 30, .inl (fun _ => 0))), ((u.1 9 1), .inl ((u.2 9 1), 30, .inl (fun _ => 0))), ((u.1 9 2), .inl ((u.2 9 2), 30, .inl (fun _ => 0)))]) (va_A [(h, .inr (9, [.null, .null, .null, .int 0]))] sz)) 3 90 (va_A [(h, .inr (9, [.null, .null, .null, .int 0]))] sz) := by
  refine Met.ofW (cc := cX9_init) (maxL := 1) (ret := none) (by decide) rfl ?_
  intro p e s m args below meth c s₁ B hml hv
  obtain ⟨rfl, hsz, hP, hK, hD0⟩ := hv
  have hx := B.exec
  have hb := B.bytes
  have hr := B.returns
  have ht := tb_tl (atoms_spec (ws := wc yX9_init cX9_init 1 none) B.pre)
  have hown : s.vm.findClass RX9 = some m.cls := findClass_of_methodNamed B.named
  have hlocks := B.notSynchronized
  have hin : meth.name = "<init>" := (name_of_methodNamed B.named B.method).1
  subst hsz
  have hD := hD0.self (sz := s.heap.size)
  generalize hAe : va_A [(h, .inr (9, [.null, .null, .null, .int 0]))] s.heap.size = A at hD ⊢
  have hA : ∀ q : Nat, s.heap.size ≤ q → A q := fun q h => by rw [← hAe]; exact Or.inr h
  have hS : va_S A s.heap s.heap [] := va_S.rf
  have hP : va_P (dC, dI) classes [(h, .inr (9, [.null, .null, .null, .int 0]))] s.heap := hP
  have hl := lv_entry [.ref h] (n := 1) (Nat.le_of_ble_eq_true rfl)
  rw [lg_entry_eq]
  generalize (lg_sl [.ref h] ++ List.replicate (1 - (lg_sl [.ref h]).length) Slot.unset).toArray = ls at hl ⊢
  have hl : lv_has ls 1 [(0, .ref h)] := hl
  refine lv_aload_n hx hb dX9_init_0 rfl (lv_at hl 0 rfl) ?_
  refine W.objInit hx hb hown (ht _ m_131) (ht _ m_103) (ht _ m_104) rfl (by rw [hml]; exact hl.1) rfl dX9_init_1 (Nat.le_of_ble_eq_true rfl) (Nat.le_of_ble_eq_true rfl) ?_
  refine W.eq (g2 := F0 m 4 ls []) rfl ?_
  refine lv_aload_n hx hb dX9_init_4 rfl (lv_at hl 0 rfl) ?_
  refine lv_bipush (v := 30) hx hb dX9_init_5 (by decide) ?_
  refine va_newa (atype := .int) (ty := .int) (a0 := (30, .inl (fun _ => 0))) (N' := 30) hx hb (ht _ m_125) rfl hK hP hD hS hA (fun _ => rfl) (by decide) (by decide) (by decide) (Nat.le_of_ble_eq_true rfl) (Nat.le_of_ble_eq_true rfl) dX9_init_7 (fun q1 ca2 H hK hP hD hS => ?_)
  have hP : va_P (dC, dI) classes [(h, .inr (9, [.null, .null, .null, .int 0])), (q1, .inl (ca2, 30, .inl (fun _ => 0)))] H := hP
  have hD : va_D A [(h, .inr (9, [.null, .null, .null, .int 0])), (q1, .inl (ca2, 30, .inl (fun _ => 0)))] := hD
  have hK : va_K (dC, dI) classes [(ca2, .int)] s := hK
  refine W.widen (k := 1) (n := 30) (by decide) (by decide) ?_
  refine va_putF (D := (dC, dI)) (ci := 9) (v := .ref q1) (ty := (.array .int)) (C := RX9) (T := TX9) (N := 4) hx hb ht inX9 tyX9 tyX9_ok nmX9 hown hK hP hD hS 0 rfl rfl 0 (by decide) (ht _ m_132) (fun _ h9 => h9) rfl hin rfl (by decide +kernel) rfl rfl (Nat.le_of_ble_eq_true rfl) dX9_init_9 (fun H locs hP hD hS => ?_)
  have hP : va_P (dC, dI) classes [(h, .inr (9, [.ref q1, .null, .null, .int 0])), (q1, .inl (ca2, 30, .inl (fun _ => 0)))] H := hP
  have hD : va_D A [(h, .inr (9, [.ref q1, .null, .null, .int 0])), (q1, .inl (ca2, 30, .inl (fun _ => 0)))] := hD
  refine lv_aload_n hx hb dX9_init_12 rfl (lv_at hl 0 rfl) ?_
  refine lv_bipush (v := 30) hx hb dX9_init_13 (by decide) ?_
  refine va_newa (atype := .int) (ty := .int) (a0 := (30, .inl (fun _ => 0))) (N' := 30) hx hb (ht _ m_125) rfl hK hP hD hS hA (fun _ => rfl) (by decide) (by decide) (by decide) (Nat.le_of_ble_eq_true rfl) (Nat.le_of_ble_eq_true rfl) dX9_init_15 (fun q3 ca4 H hK hP hD hS => ?_)
  have hP : va_P (dC, dI) classes [(h, .inr (9, [.ref q1, .null, .null, .int 0])), (q1, .inl (ca2, 30, .inl (fun _ => 0))), (q3, .inl (ca4, 30, .inl (fun _ => 0)))] H := hP
  have hD : va_D A [(h, .inr (9, [.ref q1, .null, .null, .int 0])), (q1, .inl (ca2, 30, .inl (fun _ => 0))), (q3, .inl (ca4, 30, .inl (fun _ => 0)))] := hD
  have hK : va_K (dC, dI) classes [(ca2, .int), (ca4, .int)] s := hK
  refine W.widen (k := 2) (n := 60) (by decide) (by decide) ?_
  refine va_putF (D := (dC, dI)) (ci := 9) (v := .ref q3) (ty := (.array .int)) (C := RX9) (T := TX9) (N := 4) hx hb ht inX9 tyX9 tyX9_ok nmX9 hown hK hP hD hS 0 rfl rfl 1 (by decide) (ht _ m_133) (fun _ h9 => h9) rfl hin rfl (by decide +kernel) rfl rfl (Nat.le_of_ble_eq_true rfl) dX9_init_17 (fun H locs hP hD hS => ?_)
  have hP : va_P (dC, dI) classes [(h, .inr (9, [.ref q1, .ref q3, .null, .int 0])), (q1, .inl (ca2, 30, .inl (fun _ => 0))), (q3, .inl (ca4, 30, .inl (fun _ => 0)))] H := hP
  have hD : va_D A [(h, .inr (9, [.ref q1, .ref q3, .null, .int 0])), (q1, .inl (ca2, 30, .inl (fun _ => 0))), (q3, .inl (ca4, 30, .inl (fun _ => 0)))] := hD
  refine lv_aload_n hx hb dX9_init_20 rfl (lv_at hl 0 rfl) ?_
  refine lv_bipush (v := 30) hx hb dX9_init_21 (by decide) ?_
  refine va_newa (atype := .int) (ty := .int) (a0 := (30, .inl (fun _ => 0))) (N' := 30) hx hb (ht _ m_125) rfl hK hP hD hS hA (fun _ => rfl) (by decide) (by decide) (by decide) (Nat.le_of_ble_eq_true rfl) (Nat.le_of_ble_eq_true rfl) dX9_init_23 (fun q5 ca6 H hK hP hD hS => ?_)
  have hP : va_P (dC, dI) classes [(h, .inr (9, [.ref q1, .ref q3, .null, .int 0])), (q1, .inl (ca2, 30, .inl (fun _ => 0))), (q3, .inl (ca4, 30, .inl (fun _ => 0))), (q5, .inl (ca6, 30, .inl (fun _ => 0)))] H := hP
  have hD : va_D A [(h, .inr (9, [.ref q1, .ref q3, .null, .int 0])), (q1, .inl (ca2, 30, .inl (fun _ => 0))), (q3, .inl (ca4, 30, .inl (fun _ => 0))), (q5, .inl (ca6, 30, .inl (fun _ => 0)))] := hD
  have hK : va_K (dC, dI) classes [(ca2, .int), (ca4, .int), (ca6, .int)] s := hK
  refine W.widen (k := 3) (n := 90) (by decide) (by decide) ?_
  refine va_putF (D := (dC, dI)) (ci := 9) (v := .ref q5) (ty := (.array .int)) (C := RX9) (T := TX9) (N := 4) hx hb ht inX9 tyX9 tyX9_ok nmX9 hown hK hP hD hS 0 rfl rfl 2 (by decide) (ht _ m_134) (fun _ h9 => h9) rfl hin rfl (by decide +kernel) rfl rfl (Nat.le_of_ble_eq_true rfl) dX9_init_25 (fun H locs hP hD hS => ?_)
  have hP : va_P (dC, dI) classes [(h, .inr (9, [.ref q1, .ref q3, .ref q5, .int 0])), (q1, .inl (ca2, 30, .inl (fun _ => 0))), (q3, .inl (ca4, 30, .inl (fun _ => 0))), (q5, .inl (ca6, 30, .inl (fun _ => 0)))] H := hP
  have hD : va_D A [(h, .inr (9, [.ref q1, .ref q3, .ref q5, .int 0])), (q1, .inl (ca2, 30, .inl (fun _ => 0))), (q3, .inl (ca4, 30, .inl (fun _ => 0))), (q5, .inl (ca6, 30, .inl (fun _ => 0)))] := hD
  refine lv_aload_n hx hb dX9_init_28 rfl (lv_at hl 0 rfl) ?_
  refine lv_iconst (v := 0) hx hb dX9_init_29 (by decide) ?_
  refine va_put (D := (dC, dI)) (ci := 9) (v := .int 0) (ty := (.int)) (C := RX9) (T := TX9) (N := 4) hx hb ht inX9 tyX9 tyX9_ok nmX9 hown hK hP hD hS 0 rfl rfl 3 (by decide) (ht _ m_135) (fun _ h9 => h9) rfl (by decide +kernel) rfl rfl (Nat.le_of_ble_eq_true rfl) dX9_init_30 (fun H locs hP hD hS => ?_)
  have hP : va_P (dC, dI) classes [(h, .inr (9, [.ref q1, .ref q3, .ref q5, .int 0])), (q1, .inl (ca2, 30, .inl (fun _ => 0))), (q3, .inl (ca4, 30, .inl (fun _ => 0))), (q5, .inl (ca6, 30, .inl (fun _ => 0)))] H := hP
  have hD : va_D A [(h, .inr (9, [.ref q1, .ref q3, .ref q5, .int 0])), (q1, .inl (ca2, 30, .inl (fun _ => 0))), (q3, .inl (ca4, 30, .inl (fun _ => 0))), (q5, .inl (ca6, 30, .inl (fun _ => 0)))] := hD
  have hP9 := hP.sub (ws' := [(h, .inr (9, [.ref q1, .ref q3, .ref q5, .int 0])), (q1, .inl (ca2, 30, .inl (fun _ => 0))), (q3, .inl (ca4, 30, .inl (fun _ => 0))), (q5, .inl (ca6, 30, .inl (fun _ => 0)))]) [0, 1, 2, 3] rfl
  have hD9 := hD.sub (ws' := [(h, .inr (9, [.ref q1, .ref q3, .ref q5, .int 0])), (q1, .inl (ca2, 30, .inl (fun _ => 0))), (q3, .inl (ca4, 30, .inl (fun _ => 0))), (q5, .inl (ca6, 30, .inl (fun _ => 0)))]) [0, 1, 2, 3] (by decide) rfl
  have hK9 := hK.sub (tys' := [(ca2, .int), (ca4, .int), (ca6, .int)]) [0, 1, 2] rfl
  obtain ⟨u9, hu9⟩ : ∃ u : (Nat → Nat → Nat) × (Nat → Nat → ClassId), u = ((fun i j => (([[], [], [], [], [], [], [], [], [], [q1, q3, q5]] : List (List _)).getD i []).getD j 0), (fun i j => (([[], [], [], [], [], [], [], [], [], [ca2, ca4, ca6]] : List (List _)).getD i []).getD j ca2)) := ⟨_, rfl⟩
  have hB9 : ∀ t : State, t.heap = H → s.WarmedH t.vm → (fun u t => va_P (dC, dI) classes [(h, .inr (9, [.ref (u.1 9 0), .ref (u.1 9 1), .ref (u.1 9 2), .int 0])), ((u.1 9 0), .inl ((u.2 9 0), 30, .inl (fun _ => 0))), ((u.1 9 1), .inl ((u.2 9 1), 30, .inl (fun _ => 0))), ((u.1 9 2), .inl ((u.2 9 2), 30, .inl (fun _ => 0)))] t.heap ∧ va_K (dC, dI) classes [((u.2 9 0), .int), ((u.2 9 1), .int), ((u.2 9 2), .int)] t ∧ va_D A [(h, .inr (9, [.ref (u.1 9 0), .ref (u.1 9 1), .ref (u.1 9 2), .int 0])), ((u.1 9 0), .inl ((u.2 9 0), 30, .inl (fun _ => 0))), ((u.1 9 1), .inl ((u.2 9 1), 30, .inl (fun _ => 0))), ((u.1 9 2), .inl ((u.2 9 2), 30, .inl (fun _ => 0)))]) u9 t := by
    intro t ht9 hW
    rw [hu9]
    exact ⟨by rw [ht9]; exact hP9, va_K.moved hW.alike hK9, hD9⟩
  exact W.vret hx hb hr (fun t ht9 hW => ⟨⟨u9, rfl, trivial, hB9 t ht9 hW⟩, hS.F ht9⟩) hS.2.2 dX9_init_33
set_option maxHeartbeats 4000000 in
set_option maxRecDepth 100000 in
/-- X0_init -/
theorem c_X0_init (l : Launch) (dC : Nat → ClassId) (dI : Nat → Nat → Nat) (sz : Nat) (h : Nat) : Met l yX0_init (wc yX0_init cX0_init 1 none) ({ frames := 1, cells := 7, slots := 250, locals := 40 } : Room) (pW (dC, dI) classes [(h, .inr (0, [.null, .null, .null, .null, .null, .null, .null, .int 0]))] [] sz [.ref h]) (va_Qv (fun _ : ((Nat → Nat → Nat) × (Nat → Nat → ClassId)) => True) (fun u t => va_P (dC, dI) classes [(h, .inr (0, [.ref (u.1 0 0), .ref (u.1 0 1), .ref (u.1 0 2), .ref (u.1 0 3), .ref (u.1 0 4), .ref (u.1 0 5), .ref (u.1 0 6), .int 0])), ((u.1 0 0), .inl ((u.2 0 0), 10, .inl (fun _ => 0))), ((u.1 0 1), .inl ((u.2 0 1), 10, .inl (fun _ => 0))), ((u.1 0 2), .inl ((u.2 0 2), 10, .inl (fun _ => 0))), ((u.1 0 3), .inl ((u.2 0 3), 10, .inl (fun _ => 0))), ((u.1 0 4), .inl ((u.2 0 4), 10, .inl (fun _ => 0))), ((u.1 0 5), .inl ((u.2 0 5), 120, .inl (fun _ => 0))), ((u.1 0 6), .inl ((u.2 0 6), 80, .inl (fun _ => 0)))] t.heap ∧ va_K (dC, dI) classes [((u.2 0 0), .int), ((u.2 0 1), .int), ((u.2 0 2), .int), ((u.2 0 3), .int), ((u.2 0 4), .int), ((u.2 0 5), .int), ((u.2 0 6), .int)] t ∧ va_D (va_A [(h, .inr (0, [.null, .null, .null, .null, .null, .null, .null, .int 0]))] sz) [(h, .inr (0, [.ref (u.1 0 0), .ref (u.1 0 1), .ref (u.1 0 2), .ref (u.1 0 3), .ref (u.1 0 4), .ref (u.1 0 5), .ref (u.1 0 6), .int 0])), ((u.1 0 0), .inl ((u.2 0 0), 10, .inl (fun _ => 0))), ((u.1 0 1), .inl ((u.2 0 1), 10, .inl (fun _ => 0))), ((u.1 0 2), .inl ((u.2 0 2), 10, .inl (fun _ => 0))), ((u.1 0 3), .inl ((u.2 0 3), 10, .inl (fun _ => 0))), ((u.1 0 4), .inl ((u.2 0 4), 10, .inl (fun _ => 0))), ((u.1 0 5), .inl ((u.2 0 5), 120, .inl (fun _ => 0))), ((u.1 0 6), .inl ((u.2 0 6), 80, .inl (fun _ => 0)))]) (va_A [(h, .inr (0, [.null, .null, .null, .null, .null, .null, .null, .int 0]))] sz)) 7 250 (va_A [(h, .inr (0, [.null, .null, .null, .null, .null, .null, .null, .int 0]))] sz) := by
  refine Met.ofW (cc := cX0_init) (maxL := 1) (ret := none) (by decide) rfl ?_
  intro p e s m args below meth c s₁ B hml hv
  obtain ⟨rfl, hsz, hP, hK, hD0⟩ := hv
  have hx := B.exec
  have hb := B.bytes
  have hr := B.returns
  have ht := tb_tl (atoms_spec (ws := wc yX0_init cX0_init 1 none) B.pre)
  have hown : s.vm.findClass RX0 = some m.cls := findClass_of_methodNamed B.named
  have hlocks := B.notSynchronized
  have hin : meth.name = "<init>" := (name_of_methodNamed B.named B.method).1
  subst hsz
  have hD := hD0.self (sz := s.heap.size)
  generalize hAe : va_A [(h, .inr (0, [.null, .null, .null, .null, .null, .null, .null, .int 0]))] s.heap.size = A at hD ⊢
  have hA : ∀ q : Nat, s.heap.size ≤ q → A q := fun q h => by rw [← hAe]; exact Or.inr h
  have hS : va_S A s.heap s.heap [] := va_S.rf
  have hP : va_P (dC, dI) classes [(h, .inr (0, [.null, .null, .null, .null, .null, .null, .null, .int 0]))] s.heap := hP
  have hl := lv_entry [.ref h] (n := 1) (Nat.le_of_ble_eq_true rfl)
  rw [lg_entry_eq]
  generalize (lg_sl [.ref h] ++ List.replicate (1 - (lg_sl [.ref h]).length) Slot.unset).toArray = ls at hl ⊢
  have hl : lv_has ls 1 [(0, .ref h)] := hl
  refine lv_aload_n hx hb dX0_init_0 rfl (lv_at hl 0 rfl) ?_
  refine W.objInit hx hb hown (ht _ m_151) (ht _ m_103) (ht _ m_104) rfl (by rw [hml]; exact hl.1) rfl dX0_init_1 (Nat.le_of_ble_eq_true rfl) (Nat.le_of_ble_eq_true rfl) ?_
  refine W.eq (g2 := F0 m 4 ls []) rfl ?_
  refine lv_aload_n hx hb dX0_init_4 rfl (lv_at hl 0 rfl) ?_
  refine lv_bipush (v := 10) hx hb dX0_init_5 (by decide) ?_
  refine va_newa (atype := .int) (ty := .int) (a0 := (10, .inl (fun _ => 0))) (N' := 10) hx hb (ht _ m_125) rfl hK hP hD hS hA (fun _ => rfl) (by decide) (by decide) (by decide) (Nat.le_of_ble_eq_true rfl) (Nat.le_of_ble_eq_true rfl) dX0_init_7 (fun q1 ca2 H hK hP hD hS => ?_)
  have hP : va_P (dC, dI) classes [(h, .inr (0, [.null, .null, .null, .null, .null, .null, .null, .int 0])), (q1, .inl (ca2, 10, .inl (fun _ => 0)))] H := hP
  have hD : va_D A [(h, .inr (0, [.null, .null, .null, .null, .null, .null, .null, .int 0])), (q1, .inl (ca2, 10, .inl (fun _ => 0)))] := hD
  have hK : va_K (dC, dI) classes [(ca2, .int)] s := hK
  refine W.widen (k := 1) (n := 10) (by decide) (by decide) ?_
  refine va_putF (D := (dC, dI)) (ci := 0) (v := .ref q1) (ty := (.array .int)) (C := RX0) (T := TX0) (N := 8) hx hb ht inX0 tyX0 tyX0_ok nmX0 hown hK hP hD hS 0 rfl rfl 0 (by decide) (ht _ m_152) (fun _ h9 => h9) rfl hin rfl (by decide +kernel) rfl rfl (Nat.le_of_ble_eq_true rfl) dX0_init_9 (fun H locs hP hD hS => ?_)
  have hP : va_P (dC, dI) classes [(h, .inr (0, [.ref q1, .null, .null, .null, .null, .null, .null, .int 0])), (q1, .inl (ca2, 10, .inl (fun _ => 0)))] H := hP
  have hD : va_D A [(h, .inr (0, [.ref q1, .null, .null, .null, .null, .null, .null, .int 0])), (q1, .inl (ca2, 10, .inl (fun _ => 0)))] := hD
  refine lv_aload_n hx hb dX0_init_12 rfl (lv_at hl 0 rfl) ?_
  refine lv_bipush (v := 10) hx hb dX0_init_13 (by decide) ?_
  refine va_newa (atype := .int) (ty := .int) (a0 := (10, .inl (fun _ => 0))) (N' := 10) hx hb (ht _ m_125) rfl hK hP hD hS hA (fun _ => rfl) (by decide) (by decide) (by decide) (Nat.le_of_ble_eq_true rfl) (Nat.le_of_ble_eq_true rfl) dX0_init_15 (fun q3 ca4 H hK hP hD hS => ?_)
  have hP : va_P (dC, dI) classes [(h, .inr (0, [.ref q1, .null, .null, .null, .null, .null, .null, .int 0])), (q1, .inl (ca2, 10, .inl (fun _ => 0))), (q3, .inl (ca4, 10, .inl (fun _ => 0)))] H := hP
  have hD : va_D A [(h, .inr (0, [.ref q1, .null, .null, .null, .null, .null, .null, .int 0])), (q1, .inl (ca2, 10, .inl (fun _ => 0))), (q3, .inl (ca4, 10, .inl (fun _ => 0)))] := hD
  have hK : va_K (dC, dI) classes [(ca2, .int), (ca4, .int)] s := hK
  refine W.widen (k := 2) (n := 20) (by decide) (by decide) ?_
  refine va_putF (D := (dC, dI)) (ci := 0) (v := .ref q3) (ty := (.array .int)) (C := RX0) (T := TX0) (N := 8) hx hb ht inX0 tyX0 tyX0_ok nmX0 hown hK hP hD hS 0 rfl rfl 1 (by decide) (ht _ m_154) (fun _ h9 => h9) rfl hin rfl (by decide +kernel) rfl rfl (Nat.le_of_ble_eq_true rfl) dX0_init_17 (fun H locs hP hD hS => ?_)
  have hP : va_P (dC, dI) classes [(h, .inr (0, [.ref q1, .ref q3, .null, .null, .null, .null, .null, .int 0])), (q1, .inl (ca2, 10, .inl (fun _ => 0))), (q3, .inl (ca4, 10, .inl (fun _ => 0)))] H := hP
  have hD : va_D A [(h, .inr (0, [.ref q1, .ref q3, .null, .null, .null, .null, .null, .int 0])), (q1, .inl (ca2, 10, .inl (fun _ => 0))), (q3, .inl (ca4, 10, .inl (fun _ => 0)))] := hD
  refine lv_aload_n hx hb dX0_init_20 rfl (lv_at hl 0 rfl) ?_
  refine lv_bipush (v := 10) hx hb dX0_init_21 (by decide) ?_
  refine va_newa (atype := .int) (ty := .int) (a0 := (10, .inl (fun _ => 0))) (N' := 10) hx hb (ht _ m_125) rfl hK hP hD hS hA (fun _ => rfl) (by decide) (by decide) (by decide) (Nat.le_of_ble_eq_true rfl) (Nat.le_of_ble_eq_true rfl) dX0_init_23 (fun q5 ca6 H hK hP hD hS => ?_)
  have hP : va_P (dC, dI) classes [(h, .inr (0, [.ref q1, .ref q3, .null, .null, .null, .null, .null, .int 0])), (q1, .inl (ca2, 10, .inl (fun _ => 0))), (q3, .inl (ca4, 10, .inl (fun _ => 0))), (q5, .inl (ca6, 10, .inl (fun _ => 0)))] H := hP
  have hD : va_D A [(h, .inr (0, [.ref q1, .ref q3, .null, .null, .null, .null, .null, .int 0])), (q1, .inl (ca2, 10, .inl (fun _ => 0))), (q3, .inl (ca4, 10, .inl (fun _ => 0))), (q5, .inl (ca6, 10, .inl (fun _ => 0)))] := hD
  have hK : va_K (dC, dI) classes [(ca2, .int), (ca4, .int), (ca6, .int)] s := hK
  refine W.widen (k := 3) (n := 30) (by decide) (by decide) ?_
  refine va_putF (D := (dC, dI)) (ci := 0) (v := .ref q5) (ty := (.array .int)) (C := RX0) (T := TX0) (N := 8) hx hb ht inX0 tyX0 tyX0_ok nmX0 hown hK hP hD hS 0 rfl rfl 2 (by decide) (ht _ m_156) (fun _ h9 => h9) rfl hin rfl (by decide +kernel) rfl rfl (Nat.le_of_ble_eq_true rfl) dX0_init_25 (fun H locs hP hD hS => ?_)
  have hP : va_P (dC, dI) classes [(h, .inr (0, [.ref q1, .ref q3, .ref q5, .null, .null, .null, .null, .int 0])), (q1, .inl (ca2, 10, .inl (fun _ => 0))), (q3, .inl (ca4, 10, .inl (fun _ => 0))), (q5, .inl (ca6, 10, .inl (fun _ => 0)))] H := hP
  have hD : va_D A [(h, .inr (0, [.ref q1, .ref q3, .ref q5, .null, .null, .null, .null, .int 0])), (q1, .inl (ca2, 10, .inl (fun _ => 0))), (q3, .inl (ca4, 10, .inl (fun _ => 0))), (q5, .inl (ca6, 10, .inl (fun _ => 0)))] := hD
  refine lv_aload_n hx hb dX0_init_28 rfl (lv_at hl 0 rfl) ?_
  refine lv_bipush (v := 10) hx hb dX0_init_29 (by decide) ?_
  refine va_newa (atype := .int) (ty := .int) (a0 := (10, .inl (fun _ => 0))) (N' := 10) hx hb (ht _ m_125) rfl hK hP hD hS hA (fun _ => rfl) (by decide) (by decide) (by decide) (Nat.le_of_ble_eq_true rfl) (Nat.le_of_ble_eq_true rfl) dX0_init_31 (fun q7 ca8 H hK hP hD hS => ?_)
  have hP : va_P (dC, dI) classes [(h, .inr (0, [.ref q1, .ref q3, .ref q5, .null, .null, .null, .null, .int 0])), (q1, .inl (ca2, 10, .inl (fun _ => 0))), (q3, .inl (ca4, 10, .inl (fun _ => 0))), (q5, .inl (ca6, 10, .inl (fun _ => 0))), (q7, .inl (ca8, 10, .inl (fun _ => 0)))] H := hP
  have hD : va_D A [(h, .inr (0, [.ref q1, .ref q3, .ref q5, .null, .null, .null, .null, .int 0])), (q1, .inl (ca2, 10, .inl (fun _ => 0))), (q3, .inl (ca4, 10, .inl (fun _ => 0))), (q5, .inl (ca6, 10, .inl (fun _ => 0))), (q7, .inl (ca8, 10, .inl (fun _ => 0)))] := hD
  have hK : va_K (dC, dI) classes [(ca2, .int), (ca4, .int), (ca6, .int), (ca8, .int)] s := hK
  refine W.widen (k := 4) (n := 40) (by decide) (by decide) ?_
  refine va_putF (D := (dC, dI)) (ci := 0) (v := .ref q7) (ty := (.array .int)) (C := RX0) (T := TX0) (N := 8) hx hb ht inX0 tyX0 tyX0_ok nmX0 hown hK hP hD hS 0 rfl rfl 3 (by decide) (ht _ m_158) (fun _ h9 => h9) rfl hin rfl (by decide +kernel) rfl rfl (Nat.le_of_ble_eq_true rfl) dX0_init_33 (fun H locs hP hD hS => ?_)
  have hP : va_P (dC, dI) classes [(h, .inr (0, [.ref q1, .ref q3, .ref q5, .ref q7, .null, .null, .null, .int 0])), (q1, .inl (ca2, 10, .inl (fun _ => 0))), (q3, .inl (ca4, 10, .inl (fun _ => 0))), (q5, .inl (ca6, 10, .inl (fun _ => 0))), (q7, .inl (ca8, 10, .inl (fun _ => 0)))] H := hP
  have hD : va_D A [(h, .inr (0, [.ref q1, .ref q3, .ref q5, .ref q7, .null, .null, .null, .int 0])), (q1, .inl (ca2, 10, .inl (fun _ => 0))), (q3, .inl (ca4, 10, .inl (fun _ => 0))), (q5, .inl (ca6, 10, .inl (fun _ => 0))), (q7, .inl (ca8, 10, .inl (fun _ => 0)))] := hD
  refine lv_aload_n hx hb dX0_init_36 rfl (lv_at hl 0 rfl) ?_
  refine lv_bipush (v := 10) hx hb dX0_init_37 (by decide) ?_
  refine va_newa (atype := .int) (ty := .int) (a0 := (10, .inl (fun _ => 0))) (N' := 10) hx hb (ht _ m_125) rfl hK hP hD hS hA (fun _ => rfl) (by decide) (by decide) (by decide) (Nat.le_of_ble_eq_true rfl) (Nat.le_of_ble_eq_true rfl) dX0_init_39 (fun q9 ca10 H hK hP hD hS => ?_)
  have hP : va_P (dC, dI) classes [(h, .inr (0, [.ref q1, .ref q3, .ref q5, .ref q7, .null, .null, .null, .int 0])), (q1, .inl (ca2, 10, .inl (fun _ => 0))), (q3, .inl (ca4, 10, .inl (fun _ => 0))), (q5, .inl (ca6, 10, .inl (fun _ => 0))), (q7, .inl (ca8, 10, .inl (fun _ => 0))), (q9, .inl (ca10, 10, .inl (fun _ => 0)))] H := hP
  have hD : va_D A [(h, .inr (0, [.ref q1, .ref q3, .ref q5, .ref q7, .null, .null, .null, .int 0])), (q1, .inl (ca2, 10, .inl (fun _ => 0))), (q3, .inl (ca4, 10, .inl (fun _ => 0))), (q5, .inl (ca6, 10, .inl (fun _ => 0))), (q7, .inl (ca8, 10, .inl (fun _ => 0))), (q9, .inl (ca10, 10, .inl (fun _ => 0)))] := hD
  have hK : va_K (dC, dI) classes [(ca2, .int), (ca4, .int), (ca6, .int), (ca8, .int), (ca10, .int)] s := hK
  refine W.widen (k := 5) (n := 50) (by decide) (by decide) ?_
  refine va_putF (D := (dC, dI)) (ci := 0) (v := .ref q9) (ty := (.array .int)) (C := RX0) (T := TX0) (N := 8) hx hb ht inX0 tyX0 tyX0_ok nmX0 hown hK hP hD hS 0 rfl rfl 4 (by decide) (ht _ m_160) (fun _ h9 => h9) rfl hin rfl (by decide +kernel) rfl rfl (Nat.le_of_ble_eq_true rfl) dX0_init_41 (fun H locs hP hD hS => ?_)
  have hP : va_P (dC, dI) classes [(h, .inr (0, [.ref q1, .ref q3, .ref q5, .ref q7, .ref q9, .null, .null, .int 0])), (q1, .inl (ca2, 10, .inl (fun _ => 0))), (q3, .inl (ca4, 10, .inl (fun _ => 0))), (q5, .inl (ca6, 10, .inl (fun _ => 0))), (q7, .inl (ca8, 10, .inl (fun _ => 0))), (q9, .inl (ca10, 10, .inl (fun _ => 0)))] H := hP
  have hD : va_D A [(h, .inr (0, [.ref q1, .ref q3, .ref q5, .ref q7, .ref q9, .null, .null, .int 0])), (q1, .inl (ca2, 10, .inl (fun _ => 0))), (q3, .inl (ca4, 10, .inl (fun _ => 0))), (q5, .inl (ca6, 10, .inl (fun _ => 0))), (q7, .inl (ca8, 10, .inl (fun _ => 0))), (q9, .inl (ca10, 10, .inl (fun _ => 0)))] := hD
  refine lv_aload_n hx hb dX0_init_44 rfl (lv_at hl 0 rfl) ?_
  refine lv_bipush (v := 120) hx hb dX0_init_45 (by decide) ?_
  refine va_newa (atype := .int) (ty := .int) (a0 := (120, .inl (fun _ => 0))) (N' := 120) hx hb (ht _ m_125) rfl hK hP hD hS hA (fun _ => rfl) (by decide) (by decide) (by decide) (Nat.le_of_ble_eq_true rfl) (Nat.le_of_ble_eq_true rfl) dX0_init_47 (fun q11 ca12 H hK hP hD hS => ?_)
  have hP : va_P (dC, dI) classes [(h, .inr (0, [.ref q1, .ref q3, .ref q5, .ref q7, .ref q9, .null, .null, .int 0])), (q1, .inl (ca2, 10, .inl (fun _ => 0))), (q3, .inl (ca4, 10, .inl (fun _ => 0))), (q5, .inl (ca6, 10, .inl (fun _ => 0))), (q7, .inl (ca8, 10, .inl (fun _ => 0))), (q9, .inl (ca10, 10, .inl (fun _ => 0))), (q11, .inl (ca12, 120, .inl (fun _ => 0)))] H := hP
  have hD : va_D A [(h, .inr (0, [.ref q1, .ref q3, .ref q5, .ref q7, .ref q9, .null, .null, .int 0])), (q1, .inl (ca2, 10, .inl (fun _ => 0))), (q3, .inl (ca4, 10, .inl (fun _ => 0))), (q5, .inl (ca6, 10, .inl (fun _ => 0))), (q7, .inl (ca8, 10, .inl (fun _ => 0))), (q9, .inl (ca10, 10, .inl (fun _ => 0))), (q11, .inl (ca12, 120, .inl (fun _ => 0)))] := hD
  have hK : va_K (dC, dI) classes [(ca2, .int), (ca4, .int), (ca6, .int), (ca8, .int), (ca10, .int), (ca12, .int)] s := hK
  refine W.widen (k := 6) (n := 170) (by decide) (by decide) ?_
  refine va_putF (D := (dC, dI)) (ci := 0) (v := .ref q11) (ty := (.array .int)) (C := RX0) (T := TX0) (N := 8) hx hb ht inX0 tyX0 tyX0_ok nmX0 hown hK hP hD hS 0 rfl rfl 5 (by decide) (ht _ m_162) (fun _ h9 => h9) rfl hin rfl (by decide +kernel) rfl rfl (Nat.le_of_ble_eq_true rfl) dX0_init_49 (fun H locs hP hD hS => ?_)
  have hP : va_P (dC, dI) classes [(h, .inr (0, [.ref q1, .ref q3, .ref q5, .ref q7, .ref q9, .ref q11, .null, .int 0])), (q1, .inl (ca2, 10, .inl (fun _ => 0))), (q3, .inl (ca4, 10, .inl (fun _ => 0))), (q5, .inl (ca6, 10, .inl (fun _ => 0))), (q7, .inl (ca8, 10, .inl (fun _ => 0))), (q9, .inl (ca10, 10, .inl (fun _ => 0))), (q11, .inl (ca12, 120, .inl (fun _ => 0)))] H := hP
  have hD : va_D A [(h, .inr (0, [.ref q1, .ref q3, .ref q5, .ref q7, .ref q9, .ref q11, .null, .int 0])), (q1, .inl (ca2, 10, .inl (fun _ => 0))), (q3, .inl (ca4, 10, .inl (fun _ => 0))), (q5, .inl (ca6, 10, .inl (fun _ => 0))), (q7, .inl (ca8, 10, .inl (fun _ => 0))), (q9, .inl (ca10, 10, .inl (fun _ => 0))), (q11, .inl (ca12, 120, .inl (fun _ => 0)))] := hD
  refine lv_aload_n hx hb dX0_init_52 rfl (lv_at hl 0 rfl) ?_
  refine lv_bipush (v := 80) hx hb dX0_init_53 (by decide) ?_
  refine va_newa (atype := .int) (ty := .int) (a0 := (80, .inl (fun _ => 0))) (N' := 80) hx hb (ht _ m_125) rfl hK hP hD hS hA (fun _ => rfl) (by decide) (by decide) (by decide) (Nat.le_of_ble_eq_true rfl) (Nat.le_of_ble_eq_true rfl) dX0_init_55 (fun q13 ca14 H hK hP hD hS => ?_)
  have hP : va_P (dC, dI) classes [(h, .inr (0, [.ref q1, .ref q3, .ref q5, .ref q7, .ref q9, .ref q11, .null, .int 0])), (q1, .inl (ca2, 10, .inl (fun _ => 0))), (q3, .inl (ca4, 10, .inl (fun _ => 0))), (q5, .inl (ca6, 10, .inl (fun _ => 0))), (q7, .inl (ca8, 10, .inl (fun _ => 0))), (q9, .inl (ca10, 10, .inl (fun _ => 0))), (q11, .inl (ca12, 120, .inl (fun _ => 0))), (q13, .inl (ca14, 80, .inl (fun _ => 0)))] H := hP
  have hD : va_D A [(h, .inr (0, [.ref q1, .ref q3, .ref q5, .ref q7, .ref q9, .ref q11, .null, .int 0])), (q1, .inl (ca2, 10, .inl (fun _ => 0))), (q3, .inl (ca4, 10, .inl (fun _ => 0))), (q5, .inl (ca6, 10, .inl (fun _ => 0))), (q7, .inl (ca8, 10, .inl (fun _ => 0))), (q9, .inl (ca10, 10, .inl (fun _ => 0))), (q11, .inl (ca12, 120, .inl (fun _ => 0))), (q13, .inl (ca14, 80, .inl (fun _ => 0)))] := hD
  have hK : va_K (dC, dI) classes [(ca2, .int), (ca4, .int), (ca6, .int), (ca8, .int), (ca10, .int), (ca12, .int), (ca14, .int)] s := hK
  refine W.widen (k := 7) (n := 250) (by decide) (by decide) ?_
  refine va_putF (D := (dC, dI)) (ci := 0) (v := .ref q13) (ty := (.array .int)) (C := RX0) (T := TX0) (N := 8) hx hb ht inX0 tyX0 tyX0_ok nmX0 hown hK hP hD hS 0 rfl rfl 6 (by decide) (ht _ m_163) (fun _ h9 => h9) rfl hin rfl (by decide +kernel) rfl rfl (Nat.le_of_ble_eq_true rfl) dX0_init_57 (fun H locs hP hD hS => ?_)
  have hP : va_P (dC, dI) classes [(h, .inr (0, [.ref q1, .ref q3, .ref q5, .ref q7, .ref q9, .ref q11, .ref q13, .int 0])), (q1, .inl (ca2, 10, .inl (fun _ => 0))), (q3, .inl (ca4, 10, .inl (fun _ => 0))), (q5, .inl (ca6, 10, .inl (fun _ => 0))), (q7, .inl (ca8, 10, .inl (fun _ => 0))), (q9, .inl (ca10, 10, .inl (fun _ => 0))), (q11, .inl (ca12, 120, .inl (fun _ => 0))), (q13, .inl (ca14, 80, .inl (fun _ => 0)))] H := hP
  have hD : va_D A [(h, .inr (0, [.ref q1, .ref q3, .ref q5, .ref q7, .ref q9, .ref q11, .ref q13, .int 0])), (q1, .inl (ca2, 10, .inl (fun _ => 0))), (q3, .inl (ca4, 10, .inl (fun _ => 0))), (q5, .inl (ca6, 10, .inl (fun _ => 0))), (q7, .inl (ca8, 10, .inl (fun _ => 0))), (q9, .inl (ca10, 10, .inl (fun _ => 0))), (q11, .inl (ca12, 120, .inl (fun _ => 0))), (q13, .inl (ca14, 80, .inl (fun _ => 0)))] := hD
  refine lv_aload_n hx hb dX0_init_60 rfl (lv_at hl 0 rfl) ?_
  refine lv_iconst (v := 0) hx hb dX0_init_61 (by decide) ?_
  refine va_put (D := (dC, dI)) (ci := 0) (v := .int 0) (ty := (.int)) (C := RX0) (T := TX0) (N := 8) hx hb ht inX0 tyX0 tyX0_ok nmX0 hown hK hP hD hS 0 rfl rfl 7 (by decide) (ht _ m_164) (fun _ h9 => h9) rfl (by decide +kernel) rfl rfl (Nat.le_of_ble_eq_true rfl) dX0_init_62 (fun H locs hP hD hS => ?_)
  have hP : va_P (dC, dI) classes [(h, .inr (0, [.ref q1, .ref q3, .ref q5, .ref q7, .ref q9, .ref q11, .ref q13, .int 0])), (q1, .inl (ca2, 10, .inl (fun _ => 0))), (q3, .inl (ca4, 10, .inl (fun _ => 0))), (q5, .inl (ca6, 10, .inl (fun _ => 0))), (q7, .inl (ca8, 10, .inl (fun _ => 0))), (q9, .inl (ca10, 10, .inl (fun _ => 0))), (q11, .inl (ca12, 120, .inl (fun _ => 0))), (q13, .inl (ca14, 80, .inl (fun _ => 0)))] H := hP
  have hD : va_D A [(h, .inr (0, [.ref q1, .ref q3, .ref q5, .ref q7, .ref q9, .ref q11, .ref q13, .int 0])), (q1, .inl (ca2, 10, .inl (fun _ => 0))), (q3, .inl (ca4, 10, .inl (fun _ => 0))), (q5, .inl (ca6, 10, .inl (fun _ => 0))), (q7, .inl (ca8, 10, .inl (fun _ => 0))), (q9, .inl (ca10, 10, .inl (fun _ => 0))), (q11, .inl (ca12, 120, .inl (fun _ => 0))), (q13, .inl (ca14, 80, .inl (fun _ => 0)))] := hD
  have hP9 := hP.sub (ws' := [(h, .inr (0, [.ref q1, .ref q3, .ref q5, .ref q7, .ref q9, .ref q11, .ref q13, .int 0])), (q1, .inl (ca2, 10, .inl (fun _ => 0))), (q3, .inl (ca4, 10, .inl (fun _ => 0))), (q5, .inl (ca6, 10, .inl (fun _ => 0))), (q7, .inl (ca8, 10, .inl (fun _ => 0))), (q9, .inl (ca10, 10, .inl (fun _ => 0))), (q11, .inl (ca12, 120, .inl (fun _ => 0))), (q13, .inl (ca14, 80, .inl (fun _ => 0)))]) [0, 1, 2, 3, 4, 5, 6, 7] rfl
  have hD9 := hD.sub (ws' := [(h, .inr (0, [.ref q1, .ref q3, .ref q5, .ref q7, .ref q9, .ref q11, .ref q13, .int 0])), (q1, .inl (ca2, 10, .inl (fun _ => 0))), (q3, .inl (ca4, 10, .inl (fun _ => 0))), (q5, .inl (ca6, 10, .inl (fun _ => 0))), (q7, .inl (ca8, 10, .inl (fun _ => 0))), (q9, .inl (ca10, 10, .inl (fun _ => 0))), (q11, .inl (ca12, 120, .inl (fun _ => 0))), (q13, .inl (ca14, 80, .inl (fun _ => 0)))]) [0, 1, 2, 3, 4, 5, 6, 7] (by decide) rfl
  have hK9 := hK.sub (tys' := [(ca2, .int), (ca4, .int), (ca6, .int), (ca8, .int), (ca10, .int), (ca12, .int), (ca14, .int)]) [0, 1, 2, 3, 4, 5, 6] rfl
  obtain ⟨u9, hu9⟩ : ∃ u : (Nat → Nat → Nat) × (Nat → Nat → ClassId), u = ((fun i j => (([[q1, q3, q5, q7, q9, q11, q13]] : List (List _)).getD i []).getD j 0), (fun i j => (([[ca2, ca4, ca6, ca8, ca10, ca12, ca14]] : List (List _)).getD i []).getD j ca2)) := ⟨_, rfl⟩
  have hB9 : ∀ t : State, t.heap = H → s.WarmedH t.vm → (fun u t => va_P (dC, dI) classes [(h, .inr (0, [.ref (u.1 0 0), .ref (u.1 0 1), .ref (u.1 0 2), .ref (u.1 0 3), .ref (u.1 0 4), .ref (u.1 0 5), .ref (u.1 0 6), .int 0])), ((u.1 0 0), .inl ((u.2 0 0), 10, .inl (fun _ => 0))), ((u.1 0 1), .inl ((u.2 0 1), 10, .inl (fun _ => 0))), ((u.1 0 2), .inl ((u.2 0 2), 10, .inl (fun _ => 0))), ((u.1 0 3), .inl ((u.2 0 3), 10, .inl (fun _ => 0))), ((u.1 0 4), .inl ((u.2 0 4), 10, .inl (fun _ => 0))), ((u.1 0 5), .inl ((u.2 0 5), 120, .inl (fun _ => 0))), ((u.1 0 6), .inl ((u.2 0 6), 80, .inl (fun _ => 0)))] t.heap ∧ va_K (dC, dI) classes [((u.2 0 0), .int), ((u.2 0 1), .int), ((u.2 0 2), .int), ((u.2 0 3), .int), ((u.2 0 4), .int), ((u.2 0 5), .int), ((u.2 0 6), .int)] t ∧ va_D A [(h, .inr (0, [.ref (u.1 0 0), .ref (u.1 0 1), .ref (u.1 0 2), .ref (u.1 0 3), .ref (u.1 0 4), .ref (u.1 0 5), .ref (u.1 0 6), .int 0])), ((u.1 0 0), .inl ((u.2 0 0), 10, .inl (fun _ => 0))), ((u.1 0 1), .inl ((u.2 0 1), 10, .inl (fun _ => 0))), ((u.1 0 2), .inl ((u.2 0 2), 10, .inl (fun _ => 0))), ((u.1 0 3), .inl ((u.2 0 3), 10, .inl (fun _ => 0))), ((u.1 0 4), .inl ((u.2 0 4), 10, .inl (fun _ => 0))), ((u.1 0 5), .inl ((u.2 0 5), 120, .inl (fun _ => 0))), ((u.1 0 6), .inl ((u.2 0 6), 80, .inl (fun _ => 0)))]) u9 t := by
    intro t ht9 hW
    rw [hu9]
    exact ⟨by rw [ht9]; exact hP9, va_K.moved hW.alike hK9, hD9⟩
  exact W.vret hx hb hr (fun t ht9 hW => ⟨⟨u9, rfl, trivial, hB9 t ht9 hW⟩, hS.F ht9⟩) hS.2.2 dX0_init_65
