/-! ===== od2 ===== -/
set_option maxHeartbeats 4000000 in
set_option maxRecDepth 100000 in
/-- X7_put -/
theorem c_X7_put_s20 (l : Launch) (dC : Nat → ClassId) (dI : Nat → Nat → Nat) (sz : Nat) (h : Nat) (g : Nat → Nat → Nat) (ca : Nat → Nat → ClassId) (iv : Nat → Nat → Int32) (lv : Nat → Nat → Int64) (fa : Nat → Nat → Nat → Int32) (la : Nat → Nat → Nat → Int64) (hI : IX iv fa) (a : Int32) (b : Int32) (d : Int32) (h_a : 0 ≤ a.toInt ∧ a.toInt ≤ 2) : Met l yX7_put (wc yX7_put cX7_put 4 none) ({ frames := 0, cells := 0, slots := 0, locals := 0 } : Room) (pW (dC, dI) classes (WX h g ca iv lv fa la) (TX ca) sz [.ref (g 2 1), .int a, .int b, .int d]) (va_Qv (fun (u : SS) => ∃ (na_20_2 : Nat → Int32) (nb_20_0 : Nat → Int64) (nb_20_1 : Nat → Int64), (∀ j : Nat, j ≠ a.toNatClampNeg → nb_20_0 j = (la 20 0) j) ∧ (∀ j : Nat, j ≠ a.toNatClampNeg → nb_20_1 j = (la 20 1) j) ∧ (∀ j : Nat, j ≠ a.toNatClampNeg → na_20_2 j = (fa 20 2) j) ∧ (nb_20_0 a.toNatClampNeg = (la 20 0) a.toNatClampNeg + (b).toInt64) ∧ (nb_20_1 a.toNatClampNeg = (la 20 1) a.toNatClampNeg + (d).toInt64) ∧ (na_20_2 a.toNatClampNeg = (fa 20 2) a.toNatClampNeg + 1) ∧ u = (iv, lv, (u2 fa 20 2 na_20_2), (u2 (u2 la 20 0 nb_20_0) 20 1 nb_20_1))) (bX (dC, dI) h g ca (va_A (WX h g ca iv lv fa la) sz)) (va_A (WX h g ca iv lv fa la) sz)) 0 0 (va_A (WX h g ca iv lv fa la) sz) := by
  refine Met.ofW (cc := cX7_put) (maxL := 4) (ret := none) (by decide) rfl ?_
  intro p e s m args below meth c s₁ B hml hv
  obtain ⟨rfl, hsz, hP, hK, hD0⟩ := hv
  have hx := B.exec
  have hb := B.bytes
  have hr := B.returns
  have ht := tb_tl (atoms_spec (ws := wc yX7_put cX7_put 4 none) B.pre)
  have hown : s.vm.findClass RX7 = some m.cls := findClass_of_methodNamed B.named
  have hlocks := B.notSynchronized
  subst hsz
  have hD := hD0.self (sz := s.heap.size)
  generalize hAe : va_A (WX h g ca iv lv fa la) s.heap.size = A at hD ⊢
  have hA : ∀ q : Nat, s.heap.size ≤ q → A q := fun q h => by rw [← hAe]; exact Or.inr h
  have hS : va_S A s.heap s.heap [] := va_S.rf
  have hl := lv_entry [.ref (g 2 1), .int a, .int b, .int d] (n := 4) (Nat.le_of_ble_eq_true rfl)
  rw [lg_entry_eq]
  generalize (lg_sl [.ref (g 2 1), .int a, .int b, .int d] ++ List.replicate (4 - (lg_sl [.ref (g 2 1), .int a, .int b, .int d]).length) Slot.unset).toArray = ls at hl ⊢
  have hl : lv_has ls 4 [(0, .ref (g 2 1)), (1, .int a), (2, .int b), (3, .int d)] := hl
  refine lv_aload_n hx hb dX7_put_0 rfl (lv_at hl 0 rfl) ?_
  refine gX_20_0 hx hb ht hown hK hP m_261 dX7_put_1 ?_
  refine lv_iload_n hx hb dX7_put_4 rfl (lv_at hl 1 rfl) ?_
  refine lv_dup2_11 hx hb dX7_put_5 rfl rfl ?_
  refine lX_20_0 hx hb hK hP (f := (la 20 0)) rfl (vp_in_iff.mpr ⟨by omega, by omega⟩) dX7_put_6 ?_
  refine lv_topl (fun w1 ew1 => ?_)
  refine lv_iload_n hx hb dX7_put_7 rfl (lv_at hl 2 rfl) ?_
  refine lv_i2l (v := (b.toInt64)) hx hb dX7_put_8 rfl ?_
  refine lv_ladd hx hb dX7_put_9 ?_
  refine lv_topl (fun w2 ew2 => ?_)
  refine tX_20_0 hx hb hK hP hD hS (f0 := (la 20 0)) rfl (i := a) (x := w2) (vp_in_iff.mpr ⟨by omega, by omega⟩) dX7_put_10 (fun f3 ef3 H locs hP hD hS => ?_)
  refine lv_aload_n hx hb dX7_put_11 rfl (lv_at hl 0 rfl) ?_
  refine gX_20_1 hx hb ht hown hK hP m_264 dX7_put_12 ?_
  refine lv_iload_n hx hb dX7_put_15 rfl (lv_at hl 1 rfl) ?_
  refine lv_dup2_11 hx hb dX7_put_16 rfl rfl ?_
  refine lX_20_1 hx hb hK hP (f := (la 20 1)) rfl (vp_in_iff.mpr ⟨by omega, by omega⟩) dX7_put_17 ?_
  refine lv_topl (fun w4 ew4 => ?_)
  refine lv_iload_n hx hb dX7_put_18 rfl (lv_at hl 3 rfl) ?_
  refine lv_i2l (v := (d.toInt64)) hx hb dX7_put_19 rfl ?_
  refine lv_ladd hx hb dX7_put_20 ?_
  refine lv_topl (fun w5 ew5 => ?_)
  refine tX_20_1 hx hb hK hP hD hS (f0 := (la 20 1)) rfl (i := a) (x := w5) (vp_in_iff.mpr ⟨by omega, by omega⟩) dX7_put_21 (fun f6 ef6 H locs hP hD hS => ?_)
  refine lv_aload_n hx hb dX7_put_22 rfl (lv_at hl 0 rfl) ?_
  refine gX_20_2 hx hb ht hown hK hP m_267 dX7_put_23 ?_
  refine lv_iload_n hx hb dX7_put_26 rfl (lv_at hl 1 rfl) ?_
  refine lv_dup2_11 hx hb dX7_put_27 rfl rfl ?_
  refine lX_20_2 hx hb hK hP (f := (fa 20 2)) rfl (vp_in_iff.mpr ⟨by omega, by omega⟩) dX7_put_28 ?_
  refine lv_topi (fun v7 ev7 => ?_)
  refine lv_iconst (v := 1) hx hb dX7_put_29 (by decide) ?_
  refine lv_iadd hx hb dX7_put_30 ?_
  refine lv_topi (fun v8 ev8 => ?_)
  refine tX_20_2 hx hb hK hP hD hS (f0 := (fa 20 2)) rfl (i := a) (x := v8) (vp_in_iff.mpr ⟨by omega, by omega⟩) dX7_put_31 (fun f9 ef9 H locs hP hD hS => ?_)
  have hf9 : ∀ j, inb (bA 20 2 j) (f9 j) := fun j => full_i _
  have hP9 : va_P (dC, dI) classes (WX h g ca iv lv (u2 fa 20 2 f9) (u2 (u2 la 20 0 f3) 20 1 f6)) H := hP
  have hD9 : va_D A (WX h g ca iv lv (u2 fa 20 2 f9) (u2 (u2 la 20 0 f3) 20 1 f6)) := hD
  exact W.vret hx hb hr (fun t ht9 hW => ⟨⟨(iv, lv, (u2 fa 20 2 f9), (u2 (u2 la 20 0 f3) 20 1 f6)), rfl, ⟨f9, f3, f6, (show ∀ j : Nat, j ≠ a.toNatClampNeg → f3 j = (la 20 0) j from fun j hj => by rw [ef3, updL_ne hj]), (show ∀ j : Nat, j ≠ a.toNatClampNeg → f6 j = (la 20 1) j from fun j hj => by rw [ef6, updL_ne hj]), (show ∀ j : Nat, j ≠ a.toNatClampNeg → f9 j = (fa 20 2) j from fun j hj => by rw [ef9, upd_ne hj]), (show f3 a.toNatClampNeg = (la 20 0) a.toNatClampNeg + (b).toInt64 from (by rw [ef3, updL_eq, ew2, ew1])), (show f6 a.toNatClampNeg = (la 20 1) a.toNatClampNeg + (d).toInt64 from (by rw [ef6, updL_eq, ew5, ew4])), (show f9 a.toNatClampNeg = (fa 20 2) a.toNatClampNeg + 1 from (by rw [ef9, upd_eq, ev8, ev7])), rfl⟩, by rw [ht9]; exact hP9, hD9⟩, hS.F ht9⟩) hS.2.2 dX7_put_32
set_option maxHeartbeats 4000000 in
set_option maxRecDepth 100000 in
/-- X7_clear -/
theorem c_X7_clear_s20 (l : Launch) (dC : Nat → ClassId) (dI : Nat → Nat → Nat) (sz : Nat) (h : Nat) (g : Nat → Nat → Nat) (ca : Nat → Nat → ClassId) (iv : Nat → Nat → Int32) (lv : Nat → Nat → Int64) (fa : Nat → Nat → Nat → Int32) (la : Nat → Nat → Nat → Int64) (hI : IX iv fa) : Met l yX7_clear (wc yX7_clear cX7_clear 2 none) ({ frames := 0, cells := 0, slots := 0, locals := 0 } : Room) (pW (dC, dI) classes (WX h g ca iv lv fa la) (TX ca) sz [.ref (g 2 1)]) (va_Qv (fun (u : SS) => ∃ (na_20_2 : Nat → Int32) (nb_20_0 : Nat → Int64) (nb_20_1 : Nat → Int64), (∀ j : Nat, j < 3 → nb_20_0 j = 0 ∧ nb_20_1 j = 0 ∧ na_20_2 j = 0) ∧ u = (iv, lv, (u2 fa 20 2 na_20_2), (u2 (u2 la 20 0 nb_20_0) 20 1 nb_20_1))) (bX (dC, dI) h g ca (va_A (WX h g ca iv lv fa la) sz)) (va_A (WX h g ca iv lv fa la) sz)) 0 0 (va_A (WX h g ca iv lv fa la) sz) := by
  refine Met.ofW (cc := cX7_clear) (maxL := 2) (ret := none) (by decide) rfl ?_
  intro p e s m args below meth c s₁ B hml hv
  obtain ⟨rfl, hsz, hP, hK, hD0⟩ := hv
  have hx := B.exec
  have hb := B.bytes
  have hr := B.returns
  have ht := tb_tl (atoms_spec (ws := wc yX7_clear cX7_clear 2 none) B.pre)
  have hown : s.vm.findClass RX7 = some m.cls := findClass_of_methodNamed B.named
  have hlocks := B.notSynchronized
  subst hsz
  have hD := hD0.self (sz := s.heap.size)
  generalize hAe : va_A (WX h g ca iv lv fa la) s.heap.size = A at hD ⊢
  have hA : ∀ q : Nat, s.heap.size ≤ q → A q := fun q h => by rw [← hAe]; exact Or.inr h
  have hS : va_S A s.heap s.heap [] := va_S.rf
  have hl := lv_entry [.ref (g 2 1)] (n := 2) (Nat.le_of_ble_eq_true rfl)
  rw [lg_entry_eq]
  generalize (lg_sl [.ref (g 2 1)] ++ List.replicate (2 - (lg_sl [.ref (g 2 1)]).length) Slot.unset).toArray = ls at hl ⊢
  have hl : lv_has ls 2 [(0, .ref (g 2 1))] := hl
  refine lv_iconst (v := 0) hx hb dX7_clear_0 (by decide) ?_
  refine lv_istore_n (lv' := [(1, .int 0), (0, .ref (g 2 1))]) hx hb dX7_clear_1 rfl hl (by decide) rfl (fun ls hl => ?_)
  refine lv_iload_n hx hb dX7_clear_2 rfl (lv_at hl 0 rfl) ?_
  refine lv_iconst (v := 3) hx hb dX7_clear_3 (by decide) ?_
  refine lv_icmp_ge (tgt := 34) hx hb dX7_clear_4 (by decide) (fun c1 => ?_) (fun c1 => ?_)
  · exact absurd c1 (by decide)
  · skip
    refine lv_aload_n hx hb dX7_clear_7 rfl (lv_at hl 1 rfl) ?_
    refine gX_20_0 hx hb ht hown hK hP m_261 dX7_clear_8 ?_
    refine lv_iload_n hx hb dX7_clear_11 rfl (lv_at hl 0 rfl) ?_
    refine lv_lconst (v := 0) hx hb dX7_clear_12 (by decide) ?_
    refine tX_20_0 hx hb hK hP hD hS (f0 := (la 20 0)) rfl (i := 0) (x := 0) (vp_in_iff.mpr (by decide)) dX7_clear_13 (fun f2 ef2 H locs hP hD hS => ?_)
    refine lv_aload_n hx hb dX7_clear_14 rfl (lv_at hl 1 rfl) ?_
    refine gX_20_1 hx hb ht hown hK hP m_264 dX7_clear_15 ?_
    refine lv_iload_n hx hb dX7_clear_18 rfl (lv_at hl 0 rfl) ?_
    refine lv_lconst (v := 0) hx hb dX7_clear_19 (by decide) ?_
    refine tX_20_1 hx hb hK hP hD hS (f0 := (la 20 1)) rfl (i := 0) (x := 0) (vp_in_iff.mpr (by decide)) dX7_clear_20 (fun f3 ef3 H locs hP hD hS => ?_)
    refine lv_aload_n hx hb dX7_clear_21 rfl (lv_at hl 1 rfl) ?_
    refine gX_20_2 hx hb ht hown hK hP m_267 dX7_clear_22 ?_
    refine lv_iload_n hx hb dX7_clear_25 rfl (lv_at hl 0 rfl) ?_
    refine lv_iconst (v := 0) hx hb dX7_clear_26 (by decide) ?_
    refine tX_20_2 hx hb hK hP hD hS (f0 := (fa 20 2)) rfl (i := 0) (x := 0) (vp_in_iff.mpr (by decide)) dX7_clear_27 (fun f4 ef4 H locs hP hD hS => ?_)
    have hf4 : ∀ j, inb (bA 20 2 j) (f4 j) := fun j => full_i _
    refine lv_iinc (v := 1) (lv' := [(1, .int 1), (0, .ref (g 2 1))]) hx hb dX7_clear_28 hl (k := 0) rfl (by decide) (by decide) rfl (fun ls hl => ?_)
    refine lv_goto (tgt := 2) hx hb dX7_clear_31 (by decide) ?_
    refine lv_iload_n hx hb dX7_clear_2 rfl (lv_at hl 0 rfl) ?_
    refine lv_iconst (v := 3) hx hb dX7_clear_3 (by decide) ?_
    refine lv_icmp_ge (tgt := 34) hx hb dX7_clear_4 (by decide) (fun c5 => ?_) (fun c5 => ?_)
    · exact absurd c5 (by decide)
    · skip
      refine lv_aload_n hx hb dX7_clear_7 rfl (lv_at hl 1 rfl) ?_
      refine gX_20_0 hx hb ht hown hK hP m_261 dX7_clear_8 ?_
      refine lv_iload_n hx hb dX7_clear_11 rfl (lv_at hl 0 rfl) ?_
      refine lv_lconst (v := 0) hx hb dX7_clear_12 (by decide) ?_
      refine tX_20_0 hx hb hK hP hD hS (f0 := f2) rfl (i := 1) (x := 0) (vp_in_iff.mpr (by decide)) dX7_clear_13 (fun f6 ef6 H locs hP hD hS => ?_)
      have hP : va_P (dC, dI) classes (WX h g ca iv lv (u2 fa 20 2 f4) (u2 (u2 la 20 0 f6) 20 1 f3)) H := hP
      have hD : va_D A (WX h g ca iv lv (u2 fa 20 2 f4) (u2 (u2 la 20 0 f6) 20 1 f3)) := hD
      refine lv_aload_n hx hb dX7_clear_14 rfl (lv_at hl 1 rfl) ?_
      refine gX_20_1 hx hb ht hown hK hP m_264 dX7_clear_15 ?_
      refine lv_iload_n hx hb dX7_clear_18 rfl (lv_at hl 0 rfl) ?_
      refine lv_lconst (v := 0) hx hb dX7_clear_19 (by decide) ?_
      refine tX_20_1 hx hb hK hP hD hS (f0 := f3) rfl (i := 1) (x := 0) (vp_in_iff.mpr (by decide)) dX7_clear_20 (fun f7 ef7 H locs hP hD hS => ?_)
      have hP : va_P (dC, dI) classes (WX h g ca iv lv (u2 fa 20 2 f4) (u2 (u2 la 20 0 f6) 20 1 f7)) H := hP
      have hD : va_D A (WX h g ca iv lv (u2 fa 20 2 f4) (u2 (u2 la 20 0 f6) 20 1 f7)) := hD
      refine lv_aload_n hx hb dX7_clear_21 rfl (lv_at hl 1 rfl) ?_
      refine gX_20_2 hx hb ht hown hK hP m_267 dX7_clear_22 ?_
      refine lv_iload_n hx hb dX7_clear_25 rfl (lv_at hl 0 rfl) ?_
      refine lv_iconst (v := 0) hx hb dX7_clear_26 (by decide) ?_
      refine tX_20_2 hx hb hK hP hD hS (f0 := f4) rfl (i := 1) (x := 0) (vp_in_iff.mpr (by decide)) dX7_clear_27 (fun f8 ef8 H locs hP hD hS => ?_)
      have hf8 : ∀ j, inb (bA 20 2 j) (f8 j) := fun j => full_i _
      have hP : va_P (dC, dI) classes (WX h g ca iv lv (u2 fa 20 2 f8) (u2 (u2 la 20 0 f6) 20 1 f7)) H := hP
      have hD : va_D A (WX h g ca iv lv (u2 fa 20 2 f8) (u2 (u2 la 20 0 f6) 20 1 f7)) := hD
      refine lv_iinc (v := 2) (lv' := [(1, .int 2), (0, .ref (g 2 1))]) hx hb dX7_clear_28 hl (k := 0) rfl (by decide) (by decide) rfl (fun ls hl => ?_)
      refine lv_goto (tgt := 2) hx hb dX7_clear_31 (by decide) ?_
      refine lv_iload_n hx hb dX7_clear_2 rfl (lv_at hl 0 rfl) ?_
      refine lv_iconst (v := 3) hx hb dX7_clear_3 (by decide) ?_
      refine lv_icmp_ge (tgt := 34) hx hb dX7_clear_4 (by decide) (fun c9 => ?_) (fun c9 => ?_)
      · exact absurd c9 (by decide)
      · skip
        refine lv_aload_n hx hb dX7_clear_7 rfl (lv_at hl 1 rfl) ?_
        refine gX_20_0 hx hb ht hown hK hP m_261 dX7_clear_8 ?_
        refine lv_iload_n hx hb dX7_clear_11 rfl (lv_at hl 0 rfl) ?_
        refine lv_lconst (v := 0) hx hb dX7_clear_12 (by decide) ?_
        refine tX_20_0 hx hb hK hP hD hS (f0 := f6) rfl (i := 2) (x := 0) (vp_in_iff.mpr (by decide)) dX7_clear_13 (fun f10 ef10 H locs hP hD hS => ?_)
        have hP : va_P (dC, dI) classes (WX h g ca iv lv (u2 fa 20 2 f8) (u2 (u2 la 20 0 f10) 20 1 f7)) H := hP
        have hD : va_D A (WX h g ca iv lv (u2 fa 20 2 f8) (u2 (u2 la 20 0 f10) 20 1 f7)) := hD
        refine lv_aload_n hx hb dX7_clear_14 rfl (lv_at hl 1 rfl) ?_
        refine gX_20_1 hx hb ht hown hK hP m_264 dX7_clear_15 ?_
        refine lv_iload_n hx hb dX7_clear_18 rfl (lv_at hl 0 rfl) ?_
        refine lv_lconst (v := 0) hx hb dX7_clear_19 (by decide) ?_
        refine tX_20_1 hx hb hK hP hD hS (f0 := f7) rfl (i := 2) (x := 0) (vp_in_iff.mpr (by decide)) dX7_clear_20 (fun f11 ef11 H locs hP hD hS => ?_)
        have hP : va_P (dC, dI) classes (WX h g ca iv lv (u2 fa 20 2 f8) (u2 (u2 la 20 0 f10) 20 1 f11)) H := hP
        have hD : va_D A (WX h g ca iv lv (u2 fa 20 2 f8) (u2 (u2 la 20 0 f10) 20 1 f11)) := hD
        refine lv_aload_n hx hb dX7_clear_21 rfl (lv_at hl 1 rfl) ?_
        refine gX_20_2 hx hb ht hown hK hP m_267 dX7_clear_22 ?_
        refine lv_iload_n hx hb dX7_clear_25 rfl (lv_at hl 0 rfl) ?_
        refine lv_iconst (v := 0) hx hb dX7_clear_26 (by decide) ?_
        refine tX_20_2 hx hb hK hP hD hS (f0 := f8) rfl (i := 2) (x := 0) (vp_in_iff.mpr (by decide)) dX7_clear_27 (fun f12 ef12 H locs hP hD hS => ?_)
        have hf12 : ∀ j, inb (bA 20 2 j) (f12 j) := fun j => full_i _
        have hP : va_P (dC, dI) classes (WX h g ca iv lv (u2 fa 20 2 f12) (u2 (u2 la 20 0 f10) 20 1 f11)) H := hP
        have hD : va_D A (WX h g ca iv lv (u2 fa 20 2 f12) (u2 (u2 la 20 0 f10) 20 1 f11)) := hD
        refine lv_iinc (v := 3) (lv' := [(1, .int 3), (0, .ref (g 2 1))]) hx hb dX7_clear_28 hl (k := 0) rfl (by decide) (by decide) rfl (fun ls hl => ?_)
        refine lv_goto (tgt := 2) hx hb dX7_clear_31 (by decide) ?_
        refine lv_iload_n hx hb dX7_clear_2 rfl (lv_at hl 0 rfl) ?_
        refine lv_iconst (v := 3) hx hb dX7_clear_3 (by decide) ?_
        refine lv_icmp_ge (tgt := 34) hx hb dX7_clear_4 (by decide) (fun c13 => ?_) (fun c13 => ?_)
        · skip
          have hP9 : va_P (dC, dI) classes (WX h g ca iv lv (u2 fa 20 2 f12) (u2 (u2 la 20 0 f10) 20 1 f11)) H := hP
          have hD9 : va_D A (WX h g ca iv lv (u2 fa 20 2 f12) (u2 (u2 la 20 0 f10) 20 1 f11)) := hD
          exact W.vret hx hb hr (fun t ht9 hW => ⟨⟨(iv, lv, (u2 fa 20 2 f12), (u2 (u2 la 20 0 f10) 20 1 f11)), rfl, ⟨f12, f10, f11, (show ∀ j : Nat, j < 3 → f10 j = 0 ∧ f11 j = 0 ∧ f12 j = 0 from (fun j hj => by
                rcases (by omega : j = 0 ∨ j = 1 ∨ j = 2) with rfl | rfl | rfl
                · exact ⟨(by rw [ef10, ef6, ef2]; rfl), (by rw [ef11, ef7, ef3]; rfl), (by rw [ef12, ef8, ef4]; rfl)⟩
                · exact ⟨(by rw [ef10, ef6, ef2]; rfl), (by rw [ef11, ef7, ef3]; rfl), (by rw [ef12, ef8, ef4]; rfl)⟩
                · exact ⟨(by rw [ef10, ef6, ef2]; rfl), (by rw [ef11, ef7, ef3]; rfl), (by rw [ef12, ef8, ef4]; rfl)⟩)), rfl⟩, by rw [ht9]; exact hP9, hD9⟩, hS.F ht9⟩) hS.2.2 dX7_clear_34
        · exact absurd c13 (by decide)
set_option maxHeartbeats 4000000 in
set_option maxRecDepth 100000 in
/-- X7_differ -/
theorem c_X7_differ_f20 (l : Launch) (dC : Nat → ClassId) (dI : Nat → Nat → Nat) (h : Nat) (g : Nat → Nat → Nat) (ca : Nat → Nat → ClassId) (iv : Nat → Nat → Int32) (lv : Nat → Nat → Int64) (fa : Nat → Nat → Nat → Int32) (la : Nat → Nat → Nat → Int64) (hI : IX iv fa) (d : Int32) : Met l yX7_differ (wc yX7_differ cX7_differ 4 (some .boolean)) ({ frames := 1, cells := 0, slots := 0, locals := 40 } : Room) (pR (dC, dI) classes (WX h g ca iv lv fa la) (TX ca) [.ref (g 2 1), .int 0, .int 1, .int d]) (vp_Si (fun r => (0 ≤ r.toInt ∧ r.toInt ≤ 1) ∧ (((r.toInt = 1 ∧ difL ((la 20 1) 0) ((la 20 0) 0) ((la 20 1) 1) ((la 20 0) 1) d) ∨ (r.toInt = 0 ∧ ¬ difL ((la 20 1) 0) ((la 20 0) 0) ((la 20 1) 1) ((la 20 0) 1) d))))) 0 0 (fun _ => False) := by
  refine Met.ofW (cc := cX7_differ) (maxL := 4) (ret := (some .boolean)) (by decide) rfl ?_
  intro p e s m args below meth c s₁ B hml hv
  obtain ⟨rfl, hP, hK⟩ := hv
  have hx := B.exec
  have hb := B.bytes
  have hr := B.returns
  have ht := tb_tl (atoms_spec (ws := wc yX7_differ cX7_differ 4 (some .boolean)) B.pre)
  have hown : s.vm.findClass RX7 = some m.cls := findClass_of_methodNamed B.named
  have hlocks := B.notSynchronized
  have hl := lv_entry [.ref (g 2 1), .int 0, .int 1, .int d] (n := 4) (Nat.le_of_ble_eq_true rfl)
  rw [lg_entry_eq]
  generalize (lg_sl [.ref (g 2 1), .int 0, .int 1, .int d] ++ List.replicate (4 - (lg_sl [.ref (g 2 1), .int 0, .int 1, .int d]).length) Slot.unset).toArray = ls at hl ⊢
  have hl : lv_has ls 4 [(0, .ref (g 2 1)), (1, .int 0), (2, .int 1), (3, .int d)] := hl
  refine lv_ldc2 hx hb hown (ht _ m_630) dX7_differ_0 ?_
  refine lv_aload_n hx hb dX7_differ_3 rfl (lv_at hl 0 rfl) ?_
  refine gX_20_1 hx hb ht hown hK hP m_264 dX7_differ_4 ?_
  refine lv_iload_n hx hb dX7_differ_7 rfl (lv_at hl 1 rfl) ?_
  refine lX_20_1 hx hb hK hP (f := (la 20 1)) rfl (vp_in_iff.mpr (by decide)) dX7_differ_8 ?_
  refine lv_topl (fun w1 ew1 => ?_)
  refine lv_aload_n hx hb dX7_differ_9 rfl (lv_at hl 0 rfl) ?_
  refine gX_20_0 hx hb ht hown hK hP m_261 dX7_differ_10 ?_
  refine lv_iload_n hx hb dX7_differ_13 rfl (lv_at hl 2 rfl) ?_
  refine lX_20_0 hx hb hK hP (f := (la 20 0)) rfl (vp_in_iff.mpr (by decide)) dX7_differ_14 ?_
  refine lv_topl (fun w2 ew2 => ?_)
  refine lv_lmul hx hb dX7_differ_15 ?_
  refine lv_topl (fun w3 ew3 => ?_)
  refine lv_aload_n hx hb dX7_differ_16 rfl (lv_at hl 0 rfl) ?_
  refine gX_20_1 hx hb ht hown hK hP m_264 dX7_differ_17 ?_
  refine lv_iload_n hx hb dX7_differ_20 rfl (lv_at hl 2 rfl) ?_
  refine lX_20_1 hx hb hK hP (f := (la 20 1)) rfl (vp_in_iff.mpr (by decide)) dX7_differ_21 ?_
  refine lv_topl (fun w4 ew4 => ?_)
  refine lv_aload_n hx hb dX7_differ_22 rfl (lv_at hl 0 rfl) ?_
  refine gX_20_0 hx hb ht hown hK hP m_261 dX7_differ_23 ?_
  refine lv_iload_n hx hb dX7_differ_26 rfl (lv_at hl 1 rfl) ?_
  refine lX_20_0 hx hb hK hP (f := (la 20 0)) rfl (vp_in_iff.mpr (by decide)) dX7_differ_27 ?_
  refine lv_topl (fun w5 ew5 => ?_)
  refine lv_lmul hx hb dX7_differ_28 ?_
  refine lv_topl (fun w6 ew6 => ?_)
  refine lv_lsub hx hb dX7_differ_29 ?_
  refine lv_topl (fun w7 ew7 => ?_)
  refine va_mabs_long hx hb (hml.trans hl.1.symm) hown (ht _ m_631) (ht _ m_632) (ht _ m_90) (ht _ m_633) (Nat.le_of_ble_eq_true rfl) (Nat.le_of_ble_eq_true rfl) (Nat.le_of_ble_eq_true rfl) (Nat.le_of_ble_eq_true rfl) dX7_differ_30 ?_
  refine lv_topl (fun w8 ew8 => ?_)
  refine lv_lmul hx hb dX7_differ_33 ?_
  refine lv_topl (fun w9 ew9 => ?_)
  refine lv_iload_n hx hb dX7_differ_34 rfl (lv_at hl 3 rfl) ?_
  refine lv_i2l (v := (d.toInt64)) hx hb dX7_differ_35 rfl ?_
  refine lv_aload_n hx hb dX7_differ_36 rfl (lv_at hl 0 rfl) ?_
  refine gX_20_0 hx hb ht hown hK hP m_261 dX7_differ_37 ?_
  refine lv_iload_n hx hb dX7_differ_40 rfl (lv_at hl 1 rfl) ?_
  refine lX_20_0 hx hb hK hP (f := (la 20 0)) rfl (vp_in_iff.mpr (by decide)) dX7_differ_41 ?_
  refine lv_topl (fun w10 ew10 => ?_)
  refine lv_lmul hx hb dX7_differ_42 ?_
  refine lv_topl (fun w11 ew11 => ?_)
  refine lv_aload_n hx hb dX7_differ_43 rfl (lv_at hl 0 rfl) ?_
  refine gX_20_0 hx hb ht hown hK hP m_261 dX7_differ_44 ?_
  refine lv_iload_n hx hb dX7_differ_47 rfl (lv_at hl 2 rfl) ?_
  refine lX_20_0 hx hb hK hP (f := (la 20 0)) rfl (vp_in_iff.mpr (by decide)) dX7_differ_48 ?_
  refine lv_topl (fun w12 ew12 => ?_)
  refine lv_lmul hx hb dX7_differ_49 ?_
  refine lv_topl (fun w13 ew13 => ?_)
  refine W.lcmp hx hb dX7_differ_50 ?_
  refine lv_topi (fun v14 ev14 => ?_)
  refine lv_if_le (tgt := 58) hx hb dX7_differ_51 (by decide) (fun c15 => ?_) (fun c15 => ?_)
  · have fc15 := zc_ngt ev14 (rfl : (w9).toInt = _) (rfl : (w13).toInt = _) (Int32.not_lt.mpr c15)
    refine lv_iconst (v := 0) hx hb dX7_differ_58 (by decide) ?_
    have : (0 : Int32).toInt = 0 := (by decide)
    exact W.zret (v := 0) hx hb hr rfl (fun t ht9 hW => ⟨0, rfl, ⟨⟨by decide, by decide⟩, (show (((0 : Int32).toInt = 1 ∧ difL ((la 20 1) 0) ((la 20 0) 0) ((la 20 1) 1) ((la 20 0) 1) d) ∨ ((0 : Int32).toInt = 0 ∧ ¬ difL ((la 20 1) 0) ((la 20 0) 0) ((la 20 1) 1) ((la 20 0) 1) d)) from (by subst_vars; exact Or.inr ⟨by decide, fun q9 => (by have q8 := q9; unfold difL at q8; exact absurd fc15 (Int.not_le.mpr q8))⟩))⟩, ht9⟩) (fun q hq => by cases hq) dX7_differ_59
  · have fc15 := zc_gt ev14 (rfl : (w9).toInt = _) (rfl : (w13).toInt = _) (Int32.not_le.mp c15)
    refine lv_iconst (v := 1) hx hb dX7_differ_54 (by decide) ?_
    refine lv_goto (tgt := 59) hx hb dX7_differ_55 (by decide) ?_
    have : (1 : Int32).toInt = 1 := (by decide)
    exact W.zret (v := 1) hx hb hr rfl (fun t ht9 hW => ⟨1, rfl, ⟨⟨by decide, by decide⟩, (show (((1 : Int32).toInt = 1 ∧ difL ((la 20 1) 0) ((la 20 0) 0) ((la 20 1) 1) ((la 20 0) 1) d) ∨ ((1 : Int32).toInt = 0 ∧ ¬ difL ((la 20 1) 0) ((la 20 0) 0) ((la 20 1) 1) ((la 20 0) 1) d)) from (by subst_vars; exact Or.inl ⟨by decide, fc15⟩))⟩, ht9⟩) (fun q hq => by cases hq) dX7_differ_59
set_option maxHeartbeats 4000000 in
set_option maxRecDepth 100000 in
/-- X2_heap -/
theorem c_X2_heap_w (l : Launch) (dC : Nat → ClassId) (dI : Nat → Nat → Nat) (sz : Nat) (h : Nat) (g : Nat → Nat → Nat) (ca : Nat → Nat → ClassId) (iv : Nat → Nat → Int32) (lv : Nat → Nat → Int64) (fa : Nat → Nat → Nat → Int32) (la : Nat → Nat → Nat → Int64) (hI : IX iv fa) (a : Int32) (b : Int32) (h_a : 0 ≤ a.toInt ∧ a.toInt ≤ 2) (h_b : 0 ≤ b.toInt ∧ b.toInt ≤ 59) : Met l yX2_heap (wc yX2_heap cX2_heap 3 none) ({ frames := 1, cells := 0, slots := 0, locals := 23 } : Room) (pW (dC, dI) classes (WX h g ca iv lv fa la) (TX ca) sz [.ref (g 11 6), .int a, .int b]) (va_Qv (fun (u : SS) => ∃ (na_20_2 : Nat → Int32) (nb_20_0 : Nat → Int64) (nb_20_1 : Nat → Int64), (∀ j : Nat, j ≠ a.toNatClampNeg → nb_20_0 j = (la 20 0) j) ∧ (∀ j : Nat, j ≠ a.toNatClampNeg → nb_20_1 j = (la 20 1) j) ∧ (∀ j : Nat, j ≠ a.toNatClampNeg → na_20_2 j = (fa 20 2) j) ∧ (nb_20_0 a.toNatClampNeg = (la 20 0) a.toNatClampNeg + ((fa 10 0) (9 * (b.toInt).toNat + 3)).toInt64) ∧ (nb_20_1 a.toNatClampNeg = (la 20 1) a.toNatClampNeg + ((fa 10 0) (9 * (b.toInt).toNat + 4)).toInt64) ∧ (na_20_2 a.toNatClampNeg = (fa 20 2) a.toNatClampNeg + 1) ∧ u = (iv, lv, (u2 fa 20 2 na_20_2), (u2 (u2 la 20 0 nb_20_0) 20 1 nb_20_1))) (bX (dC, dI) h g ca (va_A (WX h g ca iv lv fa la) sz)) (va_A (WX h g ca iv lv fa la) sz)) 0 0 (va_A (WX h g ca iv lv fa la) sz) := by
  refine Met.ofW (cc := cX2_heap) (maxL := 3) (ret := none) (by decide) rfl ?_
  intro p e s m args below meth c s₁ B hml hv
  obtain ⟨rfl, hsz, hP, hK, hD0⟩ := hv
  have hx := B.exec
  have hb := B.bytes
  have hr := B.returns
  have ht := tb_tl (atoms_spec (ws := wc yX2_heap cX2_heap 3 none) B.pre)
  have hown : s.vm.findClass RX2 = some m.cls := findClass_of_methodNamed B.named
  have hlocks := B.notSynchronized
  subst hsz
  have hD := hD0.self (sz := s.heap.size)
  generalize hAe : va_A (WX h g ca iv lv fa la) s.heap.size = A at hD ⊢
  have hA : ∀ q : Nat, s.heap.size ≤ q → A q := fun q h => by rw [← hAe]; exact Or.inr h
  have hS : va_S A s.heap s.heap [] := va_S.rf
  have hl := lv_entry [.ref (g 11 6), .int a, .int b] (n := 3) (Nat.le_of_ble_eq_true rfl)
  rw [lg_entry_eq]
  generalize (lg_sl [.ref (g 11 6), .int a, .int b] ++ List.replicate (3 - (lg_sl [.ref (g 11 6), .int a, .int b]).length) Slot.unset).toArray = ls at hl ⊢
  have hl : lv_has ls 3 [(0, .ref (g 11 6)), (1, .int a), (2, .int b)] := hl
  refine lv_aload_n hx hb dX2_heap_0 rfl (lv_at hl 0 rfl) ?_
  refine gX_2_1 hx hb ht hown hK hP m_305 dX2_heap_1 ?_
  refine lv_iload_n hx hb dX2_heap_4 rfl (lv_at hl 1 rfl) ?_
  refine lv_aload_n hx hb dX2_heap_5 rfl (lv_at hl 0 rfl) ?_
  refine gX_2_0 hx hb ht hown hK hP m_304 dX2_heap_6 ?_
  refine lv_iload_n hx hb dX2_heap_9 rfl (lv_at hl 2 rfl) ?_
  refine lv_iconst (v := 3) hx hb dX2_heap_10 (by decide) ?_
  refine vp_callSi (W.runV (As := [.int b, .int 3]) (rest := [.int a, .ref (g 2 1)]) ⟨hx, hb, hml, hown, ht⟩ (c_X10_get_x3 l dC dI h g ca iv lv fa la hI b ⟨by omega, by omega⟩) (kV 2 ht m_889 m_486 m_487 m_78 m_488 rfl rfl hd_X10_get_v ⟨Nat.le_of_ble_eq_true rfl, Nat.le_of_ble_eq_true rfl⟩) (vR hP hK (rX_10 hK hP)) rfl rfl hl.1 rfl (lv_room (Nat.le_of_ble_eq_true rfl)) dX2_heap_11 ⟨Nat.le_of_ble_eq_true rfl, Nat.le_of_ble_eq_true rfl⟩) (fun r1 hr1 => ?_)
  obtain ⟨hr1, xr1_0⟩ := hr1
  have xr1_0 : (r1 : Int32).toInt = ((fa 10 0) (9 * ((b : Int32).toInt).toNat + 3)).toInt := xr1_0
  refine lv_aload_n hx hb dX2_heap_14 rfl (lv_at hl 0 rfl) ?_
  refine gX_2_0 hx hb ht hown hK hP m_304 dX2_heap_15 ?_
  refine lv_iload_n hx hb dX2_heap_18 rfl (lv_at hl 2 rfl) ?_
  refine lv_iconst (v := 4) hx hb dX2_heap_19 (by decide) ?_
  refine vp_callSi (W.runV (As := [.int b, .int 4]) (rest := [.int r1, .int a, .ref (g 2 1)]) ⟨hx, hb, hml, hown, ht⟩ (c_X10_get_x4 l dC dI h g ca iv lv fa la hI b ⟨by omega, by omega⟩) (kV 2 ht m_889 m_486 m_487 m_78 m_488 rfl rfl hd_X10_get_v ⟨Nat.le_of_ble_eq_true rfl, Nat.le_of_ble_eq_true rfl⟩) (vR hP hK (rX_10 hK hP)) rfl rfl hl.1 rfl (lv_room (Nat.le_of_ble_eq_true rfl)) dX2_heap_20 ⟨Nat.le_of_ble_eq_true rfl, Nat.le_of_ble_eq_true rfl⟩) (fun r2 hr2 => ?_)
  obtain ⟨hr2, xr2_0⟩ := hr2
  have xr2_0 : (r2 : Int32).toInt = ((fa 10 0) (9 * ((b : Int32).toInt).toNat + 4)).toInt := xr2_0
  have hFc := free_all hD hS hA
  refine va_callv (va_runV (As := [.int a, .int r1, .int r2]) (rest := []) ⟨hx, hb, hml, hown, ht⟩ (c_X7_put_s20 l dC dI s.heap.size h g ca iv lv fa la hI a r1 r2 ⟨by omega, by omega⟩) (kV 3 ht m_894 m_578 m_579 m_84 m_580 rfl rfl hd_X7_put_v ⟨Nat.le_of_ble_eq_true rfl, Nat.le_of_ble_eq_true rfl⟩) (vW hP hK hD (rX_20 hK hP)) rfl rfl hl.1 rfl (lv_room (Nat.le_of_ble_eq_true rfl)) dX2_heap_23 ⟨Nat.le_of_ble_eq_true rfl, Nat.le_of_ble_eq_true rfl⟩) hS (fun q _ h => hFc q h) hFc (fun u t H1 locs ht9 hvm hr3 hB hz1 hk1 hS => ?_)
  obtain ⟨n4, n5, n6, xr3_0, xr3_1, xr3_2, xr3_3, xr3_4, xr3_5, rfl⟩ := hr3
  have hn4 : ∀ j, inb (bA 20 2 j) (n4 j) := fun j => full_i _
  obtain ⟨hP, hD⟩ := hB
  rw [ht9] at hP
  generalize H1 = H at hP hS ⊢
  have hP : va_P (dC, dI) classes (WX h g ca iv lv (u2 fa 20 2 n4) (u2 (u2 la 20 0 n5) 20 1 n6)) H := hP
  have hD : va_D A (WX h g ca iv lv (u2 fa 20 2 n4) (u2 (u2 la 20 0 n5) 20 1 n6)) := (show va_D _ (WX h g ca iv lv (u2 fa 20 2 n4) (u2 (u2 la 20 0 n5) 20 1 n6)) from hD).weaken (fun _ _ _ h => hFc _ h)
  have xr3_0 : ∀ j : Nat, j ≠ (a : Int32).toNatClampNeg → n5 j = (la 20 0) j := xr3_0
  have xr3_1 : ∀ j : Nat, j ≠ (a : Int32).toNatClampNeg → n6 j = (la 20 1) j := xr3_1
  have xr3_2 : ∀ j : Nat, j ≠ (a : Int32).toNatClampNeg → n4 j = (fa 20 2) j := xr3_2
  have xr3_3 : n5 (a : Int32).toNatClampNeg = (la 20 0) (a : Int32).toNatClampNeg + ((r1 : Int32)).toInt64 := xr3_3
  have xr3_4 : n6 (a : Int32).toNatClampNeg = (la 20 1) (a : Int32).toNatClampNeg + ((r2 : Int32)).toInt64 := xr3_4
  have xr3_5 : n4 (a : Int32).toNatClampNeg = (fa 20 2) (a : Int32).toNatClampNeg + 1 := xr3_5
  have hP9 : va_P (dC, dI) classes (WX h g ca iv lv (u2 fa 20 2 n4) (u2 (u2 la 20 0 n5) 20 1 n6)) H := hP
  have hD9 : va_D A (WX h g ca iv lv (u2 fa 20 2 n4) (u2 (u2 la 20 0 n5) 20 1 n6)) := hD
  exact W.vret hx hb hr (fun t ht9 hW => ⟨⟨(iv, lv, (u2 fa 20 2 n4), (u2 (u2 la 20 0 n5) 20 1 n6)), rfl, ⟨n4, n5, n6, (show ∀ j : Nat, j ≠ a.toNatClampNeg → n5 j = (la 20 0) j from (fun j hj => xr3_0 j hj)), (show ∀ j : Nat, j ≠ a.toNatClampNeg → n6 j = (la 20 1) j from (fun j hj => xr3_1 j hj)), (show ∀ j : Nat, j ≠ a.toNatClampNeg → n4 j = (fa 20 2) j from (fun j hj => xr3_2 j hj)), (show n5 a.toNatClampNeg = (la 20 0) a.toNatClampNeg + ((fa 10 0) (9 * ((b).toInt).toNat + 3)).toInt64 from (by have h1 : (r1 : Int32) = fa 10 0 (9 * (b.toInt).toNat + 3) := Int32.toInt_inj.mp xr1_0; have h2 := xr3_3; rw [h1] at h2; exact h2)), (show n6 a.toNatClampNeg = (la 20 1) a.toNatClampNeg + ((fa 10 0) (9 * ((b).toInt).toNat + 4)).toInt64 from (by have h1 : (r2 : Int32) = fa 10 0 (9 * (b.toInt).toNat + 4) := Int32.toInt_inj.mp xr2_0; have h2 := xr3_4; rw [h1] at h2; exact h2)), (show n4 a.toNatClampNeg = (fa 20 2) a.toNatClampNeg + 1 from xr3_5), rfl⟩, by rw [ht9]; exact hP9, hD9⟩, hS.F ht9⟩) hS.2.2 dX2_heap_26
/-! ===== ne1 ===== -/
set_option maxHeartbeats 4000000 in
set_option maxRecDepth 100000 in
/-- X7_remove -/
theorem c_X7_remove_s20 (l : Launch) (dC : Nat → ClassId) (dI : Nat → Nat → Nat) (sz : Nat) (h : Nat) (g : Nat → Nat → Nat) (ca : Nat → Nat → ClassId) (iv : Nat → Nat → Int32) (lv : Nat → Nat → Int64) (fa : Nat → Nat → Nat → Int32) (la : Nat → Nat → Nat → Int64) (hI : IX iv fa) (a : Int32) (b : Int32) (d : Int32) (h_a : 0 ≤ a.toInt ∧ a.toInt ≤ 2) : Met l yX7_remove (wc yX7_remove cX7_remove 4 none) ({ frames := 0, cells := 0, slots := 0, locals := 0 } : Room) (pW (dC, dI) classes (WX h g ca iv lv fa la) (TX ca) sz [.ref (g 2 1), .int a, .int b, .int d]) (va_Qv (fun (u : SS) => ∃ (na_20_2 : Nat → Int32) (nb_20_0 : Nat → Int64) (nb_20_1 : Nat → Int64), (∀ j : Nat, j ≠ a.toNatClampNeg → nb_20_0 j = (la 20 0) j) ∧ (∀ j : Nat, j ≠ a.toNatClampNeg → nb_20_1 j = (la 20 1) j) ∧ (nb_20_0 a.toNatClampNeg = (la 20 0) a.toNatClampNeg - (b).toInt64) ∧ (nb_20_1 a.toNatClampNeg = (la 20 1) a.toNatClampNeg - (d).toInt64) ∧ u = (iv, lv, (u2 fa 20 2 na_20_2), (u2 (u2 la 20 0 nb_20_0) 20 1 nb_20_1))) (bX (dC, dI) h g ca (va_A (WX h g ca iv lv fa la) sz)) (va_A (WX h g ca iv lv fa la) sz)) 0 0 (va_A (WX h g ca iv lv fa la) sz) := by
  refine Met.ofW (cc := cX7_remove) (maxL := 4) (ret := none) (by decide) rfl ?_
  intro p e s m args below meth c s₁ B hml hv
  obtain ⟨rfl, hsz, hP, hK, hD0⟩ := hv
  have hx := B.exec
  have hb := B.bytes
  have hr := B.returns
  have ht := tb_tl (atoms_spec (ws := wc yX7_remove cX7_remove 4 none) B.pre)
  have hown : s.vm.findClass RX7 = some m.cls := findClass_of_methodNamed B.named
  have hlocks := B.notSynchronized
  subst hsz
  have hD := hD0.self (sz := s.heap.size)
  generalize hAe : va_A (WX h g ca iv lv fa la) s.heap.size = A at hD ⊢
  have hA : ∀ q : Nat, s.heap.size ≤ q → A q := fun q h => by rw [← hAe]; exact Or.inr h
  have hS : va_S A s.heap s.heap [] := va_S.rf
  have hl := lv_entry [.ref (g 2 1), .int a, .int b, .int d] (n := 4) (Nat.le_of_ble_eq_true rfl)
  rw [lg_entry_eq]
  generalize (lg_sl [.ref (g 2 1), .int a, .int b, .int d] ++ List.replicate (4 - (lg_sl [.ref (g 2 1), .int a, .int b, .int d]).length) Slot.unset).toArray = ls at hl ⊢
  have hl : lv_has ls 4 [(0, .ref (g 2 1)), (1, .int a), (2, .int b), (3, .int d)] := hl
  refine lv_aload_n hx hb dX7_remove_0 rfl (lv_at hl 0 rfl) ?_
  refine gX_20_0 hx hb ht hown hK hP m_261 dX7_remove_1 ?_
  refine lv_iload_n hx hb dX7_remove_4 rfl (lv_at hl 1 rfl) ?_
  refine lv_dup2_11 hx hb dX7_remove_5 rfl rfl ?_
  refine lX_20_0 hx hb hK hP (f := (la 20 0)) rfl (vp_in_iff.mpr ⟨by omega, by omega⟩) dX7_remove_6 ?_
  refine lv_topl (fun w1 ew1 => ?_)
  refine lv_iload_n hx hb dX7_remove_7 rfl (lv_at hl 2 rfl) ?_
  refine lv_i2l (v := (b.toInt64)) hx hb dX7_remove_8 rfl ?_
  refine lv_lsub hx hb dX7_remove_9 ?_
  refine lv_topl (fun w2 ew2 => ?_)
  refine tX_20_0 hx hb hK hP hD hS (f0 := (la 20 0)) rfl (i := a) (x := w2) (vp_in_iff.mpr ⟨by omega, by omega⟩) dX7_remove_10 (fun f3 ef3 H locs hP hD hS => ?_)
  refine lv_aload_n hx hb dX7_remove_11 rfl (lv_at hl 0 rfl) ?_
  refine gX_20_1 hx hb ht hown hK hP m_264 dX7_remove_12 ?_
  refine lv_iload_n hx hb dX7_remove_15 rfl (lv_at hl 1 rfl) ?_
  refine lv_dup2_11 hx hb dX7_remove_16 rfl rfl ?_
  refine lX_20_1 hx hb hK hP (f := (la 20 1)) rfl (vp_in_iff.mpr ⟨by omega, by omega⟩) dX7_remove_17 ?_
  refine lv_topl (fun w4 ew4 => ?_)
  refine lv_iload_n hx hb dX7_remove_18 rfl (lv_at hl 3 rfl) ?_
  refine lv_i2l (v := (d.toInt64)) hx hb dX7_remove_19 rfl ?_
  refine lv_lsub hx hb dX7_remove_20 ?_
  refine lv_topl (fun w5 ew5 => ?_)
  refine tX_20_1 hx hb hK hP hD hS (f0 := (la 20 1)) rfl (i := a) (x := w5) (vp_in_iff.mpr ⟨by omega, by omega⟩) dX7_remove_21 (fun f6 ef6 H locs hP hD hS => ?_)
  refine lv_aload_n hx hb dX7_remove_22 rfl (lv_at hl 0 rfl) ?_
  refine gX_20_2 hx hb ht hown hK hP m_267 dX7_remove_23 ?_
  refine lv_iload_n hx hb dX7_remove_26 rfl (lv_at hl 1 rfl) ?_
  refine lv_dup2_11 hx hb dX7_remove_27 rfl rfl ?_
  refine lX_20_2 hx hb hK hP (f := (fa 20 2)) rfl (vp_in_iff.mpr ⟨by omega, by omega⟩) dX7_remove_28 ?_
  refine lv_topi (fun v7 ev7 => ?_)
  refine lv_iconst (v := 1) hx hb dX7_remove_29 (by decide) ?_
  refine lv_isub hx hb dX7_remove_30 ?_
  refine lv_topi (fun v8 ev8 => ?_)
  refine tX_20_2 hx hb hK hP hD hS (f0 := (fa 20 2)) rfl (i := a) (x := v8) (vp_in_iff.mpr ⟨by omega, by omega⟩) dX7_remove_31 (fun f9 ef9 H locs hP hD hS => ?_)
  have hf9 : ∀ j, inb (bA 20 2 j) (f9 j) := fun j => full_i _
  have hP9 : va_P (dC, dI) classes (WX h g ca iv lv (u2 fa 20 2 f9) (u2 (u2 la 20 0 f3) 20 1 f6)) H := hP
  have hD9 : va_D A (WX h g ca iv lv (u2 fa 20 2 f9) (u2 (u2 la 20 0 f3) 20 1 f6)) := hD
  exact W.vret hx hb hr (fun t ht9 hW => ⟨⟨(iv, lv, (u2 fa 20 2 f9), (u2 (u2 la 20 0 f3) 20 1 f6)), rfl, ⟨f9, f3, f6, (show ∀ j : Nat, j ≠ a.toNatClampNeg → f3 j = (la 20 0) j from fun j hj => by rw [ef3, updL_ne hj]), (show ∀ j : Nat, j ≠ a.toNatClampNeg → f6 j = (la 20 1) j from fun j hj => by rw [ef6, updL_ne hj]), (show f3 a.toNatClampNeg = (la 20 0) a.toNatClampNeg - (b).toInt64 from (by rw [ef3, updL_eq, ew2, ew1])), (show f6 a.toNatClampNeg = (la 20 1) a.toNatClampNeg - (d).toInt64 from (by rw [ef6, updL_eq, ew5, ew4])), rfl⟩, by rw [ht9]; exact hP9, hD9⟩, hS.F ht9⟩) hS.2.2 dX7_remove_32
