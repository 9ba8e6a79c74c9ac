/-! ===== la5 ===== -/
set_option maxHeartbeats 4000000 in
set_option maxRecDepth 100000 in
/-- X12_only -/
theorem c_X12_only_w0 (l : Launch) (dC : Nat → ClassId) (dI : Nat → Nat → Nat) (sz : Nat) (h : Nat) (g : Nat → Nat → Nat) (ca : Nat → Nat → ClassId) (iv : Nat → Nat → Int32) (lv : Nat → Nat → Int64) (fa : Nat → Nat → Nat → Int32) (la : Nat → Nat → Nat → Int64) (hI : IX iv fa) : Met l yX12_only (wc yX12_only cX12_only 2 none) ({ frames := 0, cells := 0, slots := 0, locals := 0 } : Room) (pW (dC, dI) classes (WM h g ca iv lv fa la) (TM ca) sz [.ref h, .int 0]) (va_Qv (fun (u : SS) => ∃ (nl_12_44 : Int64) (nl_12_45 : Int64), ((nl_12_44).toInt = ((la 12 42) 0).toInt) ∧ ((nl_12_45).toInt = ((la 12 43) 0).toInt) ∧ u = (iv, (u2 (u2 lv 12 44 nl_12_44) 12 45 nl_12_45), fa, la)) (bM (dC, dI) h g ca (va_A (WM h g ca iv lv fa la) sz)) (va_A (WM h g ca iv lv fa la) sz)) 0 0 (va_A (WM h g ca iv lv fa la) sz) := by
  refine Met.ofW (cc := cX12_only) (maxL := 2) (ret := none) (by decide) rfl ?_
  intro p e s m args below meth c s₁ B hml hv
  obtain ⟨rfl, hsz, hP, hK, hD0⟩ := hv
  have hx := B.exec
  have hb := B.bytes
  have hr := B.returns
  have ht := tb_tl (atoms_spec (ws := wc yX12_only cX12_only 2 none) B.pre)
  have hown : s.vm.findClass RX12 = some m.cls := findClass_of_methodNamed B.named
  have hlocks := B.notSynchronized
  subst hsz
  have hD := hD0.self (sz := s.heap.size)
  generalize hAe : va_A (WM h g ca iv lv fa la) s.heap.size = A at hD ⊢
  have hA : ∀ q : Nat, s.heap.size ≤ q → A q := fun q h => by rw [← hAe]; exact Or.inr h
  have hS : va_S A s.heap s.heap [] := va_S.rf
  have hl := lv_entry [.ref h, .int 0] (n := 2) (Nat.le_of_ble_eq_true rfl)
  rw [lg_entry_eq]
  generalize (lg_sl [.ref h, .int 0] ++ List.replicate (2 - (lg_sl [.ref h, .int 0]).length) Slot.unset).toArray = ls at hl ⊢
  have hl : lv_has ls 2 [(0, .ref h), (1, .int 0)] := hl
  refine lv_aload_n hx hb dX12_only_0 rfl (lv_at hl 0 rfl) ?_
  refine lv_aload_n hx hb dX12_only_1 rfl (lv_at hl 0 rfl) ?_
  refine gM_12_42 hx hb ht hown hK hP m_1181 dX12_only_2 ?_
  refine lv_iload_n hx hb dX12_only_5 rfl (lv_at hl 1 rfl) ?_
  refine lM_12_42 hx hb hK hP (f := (la 12 42)) rfl (vp_in_iff.mpr (by decide)) dX12_only_6 ?_
  refine lv_topl (fun w1 ew1 => ?_)
  refine pM_12_44 (v := w1) hx hb ht hown hK hP hD hS m_1183 dX12_only_7 (fun H locs hP hD hS => ?_)
  refine lv_aload_n hx hb dX12_only_10 rfl (lv_at hl 0 rfl) ?_
  refine lv_aload_n hx hb dX12_only_11 rfl (lv_at hl 0 rfl) ?_
  refine gM_12_43 hx hb ht hown hK hP m_1182 dX12_only_12 ?_
  refine lv_iload_n hx hb dX12_only_15 rfl (lv_at hl 1 rfl) ?_
  refine lM_12_43 hx hb hK hP (f := (la 12 43)) rfl (vp_in_iff.mpr (by decide)) dX12_only_16 ?_
  refine lv_topl (fun w2 ew2 => ?_)
  refine pM_12_45 (v := w2) hx hb ht hown hK hP hD hS m_1184 dX12_only_17 (fun H locs hP hD hS => ?_)
  have hP9 : va_P (dC, dI) classes (WM h g ca iv (u2 (u2 lv 12 44 w1) 12 45 w2) fa la) H := hP
  have hD9 : va_D A (WM h g ca iv (u2 (u2 lv 12 44 w1) 12 45 w2) fa la) := hD
  exact W.vret hx hb hr (fun t ht9 hW => ⟨⟨(iv, (u2 (u2 lv 12 44 w1) 12 45 w2), fa, la), rfl, ⟨w1, w2, (show (w1 : Int64).toInt = ((la 12 42) 0).toInt from congrArg Int64.toInt (by first | (simp only [ew2, ew1]; rfl) | simp only [ew2, ew1] | rfl)), (show (w2 : Int64).toInt = ((la 12 43) 0).toInt from congrArg Int64.toInt (by first | (simp only [ew2, ew1]; rfl) | simp only [ew2, ew1] | rfl)), rfl⟩, by rw [ht9]; exact hP9, hD9⟩, hS.F ht9⟩) hS.2.2 dX12_only_20
set_option maxHeartbeats 4000000 in
set_option maxRecDepth 100000 in
/-- X12_only -/
theorem c_X12_only_w1 (l : Launch) (dC : Nat → ClassId) (dI : Nat → Nat → Nat) (sz : Nat) (h : Nat) (g : Nat → Nat → Nat) (ca : Nat → Nat → ClassId) (iv : Nat → Nat → Int32) (lv : Nat → Nat → Int64) (fa : Nat → Nat → Nat → Int32) (la : Nat → Nat → Nat → Int64) (hI : IX iv fa) : Met l yX12_only (wc yX12_only cX12_only 2 none) ({ frames := 0, cells := 0, slots := 0, locals := 0 } : Room) (pW (dC, dI) classes (WM h g ca iv lv fa la) (TM ca) sz [.ref h, .int 1]) (va_Qv (fun (u : SS) => ∃ (nl_12_44 : Int64) (nl_12_45 : Int64), ((nl_12_44).toInt = ((la 12 42) 1).toInt) ∧ ((nl_12_45).toInt = ((la 12 43) 1).toInt) ∧ u = (iv, (u2 (u2 lv 12 44 nl_12_44) 12 45 nl_12_45), fa, la)) (bM (dC, dI) h g ca (va_A (WM h g ca iv lv fa la) sz)) (va_A (WM h g ca iv lv fa la) sz)) 0 0 (va_A (WM h g ca iv lv fa la) sz) := by
  refine Met.ofW (cc := cX12_only) (maxL := 2) (ret := none) (by decide) rfl ?_
  intro p e s m args below meth c s₁ B hml hv
  obtain ⟨rfl, hsz, hP, hK, hD0⟩ := hv
  have hx := B.exec
  have hb := B.bytes
  have hr := B.returns
  have ht := tb_tl (atoms_spec (ws := wc yX12_only cX12_only 2 none) B.pre)
  have hown : s.vm.findClass RX12 = some m.cls := findClass_of_methodNamed B.named
  have hlocks := B.notSynchronized
  subst hsz
  have hD := hD0.self (sz := s.heap.size)
  generalize hAe : va_A (WM h g ca iv lv fa la) s.heap.size = A at hD ⊢
  have hA : ∀ q : Nat, s.heap.size ≤ q → A q := fun q h => by rw [← hAe]; exact Or.inr h
  have hS : va_S A s.heap s.heap [] := va_S.rf
  have hl := lv_entry [.ref h, .int 1] (n := 2) (Nat.le_of_ble_eq_true rfl)
  rw [lg_entry_eq]
  generalize (lg_sl [.ref h, .int 1] ++ List.replicate (2 - (lg_sl [.ref h, .int 1]).length) Slot.unset).toArray = ls at hl ⊢
  have hl : lv_has ls 2 [(0, .ref h), (1, .int 1)] := hl
  refine lv_aload_n hx hb dX12_only_0 rfl (lv_at hl 0 rfl) ?_
  refine lv_aload_n hx hb dX12_only_1 rfl (lv_at hl 0 rfl) ?_
  refine gM_12_42 hx hb ht hown hK hP m_1181 dX12_only_2 ?_
  refine lv_iload_n hx hb dX12_only_5 rfl (lv_at hl 1 rfl) ?_
  refine lM_12_42 hx hb hK hP (f := (la 12 42)) rfl (vp_in_iff.mpr (by decide)) dX12_only_6 ?_
  refine lv_topl (fun w1 ew1 => ?_)
  refine pM_12_44 (v := w1) hx hb ht hown hK hP hD hS m_1183 dX12_only_7 (fun H locs hP hD hS => ?_)
  refine lv_aload_n hx hb dX12_only_10 rfl (lv_at hl 0 rfl) ?_
  refine lv_aload_n hx hb dX12_only_11 rfl (lv_at hl 0 rfl) ?_
  refine gM_12_43 hx hb ht hown hK hP m_1182 dX12_only_12 ?_
  refine lv_iload_n hx hb dX12_only_15 rfl (lv_at hl 1 rfl) ?_
  refine lM_12_43 hx hb hK hP (f := (la 12 43)) rfl (vp_in_iff.mpr (by decide)) dX12_only_16 ?_
  refine lv_topl (fun w2 ew2 => ?_)
  refine pM_12_45 (v := w2) hx hb ht hown hK hP hD hS m_1184 dX12_only_17 (fun H locs hP hD hS => ?_)
  have hP9 : va_P (dC, dI) classes (WM h g ca iv (u2 (u2 lv 12 44 w1) 12 45 w2) fa la) H := hP
  have hD9 : va_D A (WM h g ca iv (u2 (u2 lv 12 44 w1) 12 45 w2) fa la) := hD
  exact W.vret hx hb hr (fun t ht9 hW => ⟨⟨(iv, (u2 (u2 lv 12 44 w1) 12 45 w2), fa, la), rfl, ⟨w1, w2, (show (w1 : Int64).toInt = ((la 12 42) 1).toInt from congrArg Int64.toInt (by first | (simp only [ew2, ew1]; rfl) | simp only [ew2, ew1] | rfl)), (show (w2 : Int64).toInt = ((la 12 43) 1).toInt from congrArg Int64.toInt (by first | (simp only [ew2, ew1]; rfl) | simp only [ew2, ew1] | rfl)), rfl⟩, by rw [ht9]; exact hP9, hD9⟩, hS.F ht9⟩) hS.2.2 dX12_only_20
set_option maxHeartbeats 4000000 in
set_option maxRecDepth 100000 in
/-- X12_only -/
theorem c_X12_only_w2 (l : Launch) (dC : Nat → ClassId) (dI : Nat → Nat → Nat) (sz : Nat) (h : Nat) (g : Nat → Nat → Nat) (ca : Nat → Nat → ClassId) (iv : Nat → Nat → Int32) (lv : Nat → Nat → Int64) (fa : Nat → Nat → Nat → Int32) (la : Nat → Nat → Nat → Int64) (hI : IX iv fa) : Met l yX12_only (wc yX12_only cX12_only 2 none) ({ frames := 0, cells := 0, slots := 0, locals := 0 } : Room) (pW (dC, dI) classes (WM h g ca iv lv fa la) (TM ca) sz [.ref h, .int 2]) (va_Qv (fun (u : SS) => ∃ (nl_12_44 : Int64) (nl_12_45 : Int64), ((nl_12_44).toInt = ((la 12 42) 2).toInt) ∧ ((nl_12_45).toInt = ((la 12 43) 2).toInt) ∧ u = (iv, (u2 (u2 lv 12 44 nl_12_44) 12 45 nl_12_45), fa, la)) (bM (dC, dI) h g ca (va_A (WM h g ca iv lv fa la) sz)) (va_A (WM h g ca iv lv fa la) sz)) 0 0 (va_A (WM h g ca iv lv fa la) sz) := by
  refine Met.ofW (cc := cX12_only) (maxL := 2) (ret := none) (by decide) rfl ?_
  intro p e s m args below meth c s₁ B hml hv
  obtain ⟨rfl, hsz, hP, hK, hD0⟩ := hv
  have hx := B.exec
  have hb := B.bytes
  have hr := B.returns
  have ht := tb_tl (atoms_spec (ws := wc yX12_only cX12_only 2 none) B.pre)
  have hown : s.vm.findClass RX12 = some m.cls := findClass_of_methodNamed B.named
  have hlocks := B.notSynchronized
  subst hsz
  have hD := hD0.self (sz := s.heap.size)
  generalize hAe : va_A (WM h g ca iv lv fa la) s.heap.size = A at hD ⊢
  have hA : ∀ q : Nat, s.heap.size ≤ q → A q := fun q h => by rw [← hAe]; exact Or.inr h
  have hS : va_S A s.heap s.heap [] := va_S.rf
  have hl := lv_entry [.ref h, .int 2] (n := 2) (Nat.le_of_ble_eq_true rfl)
  rw [lg_entry_eq]
  generalize (lg_sl [.ref h, .int 2] ++ List.replicate (2 - (lg_sl [.ref h, .int 2]).length) Slot.unset).toArray = ls at hl ⊢
  have hl : lv_has ls 2 [(0, .ref h), (1, .int 2)] := hl
  refine lv_aload_n hx hb dX12_only_0 rfl (lv_at hl 0 rfl) ?_
  refine lv_aload_n hx hb dX12_only_1 rfl (lv_at hl 0 rfl) ?_
  refine gM_12_42 hx hb ht hown hK hP m_1181 dX12_only_2 ?_
  refine lv_iload_n hx hb dX12_only_5 rfl (lv_at hl 1 rfl) ?_
  refine lM_12_42 hx hb hK hP (f := (la 12 42)) rfl (vp_in_iff.mpr (by decide)) dX12_only_6 ?_
  refine lv_topl (fun w1 ew1 => ?_)
  refine pM_12_44 (v := w1) hx hb ht hown hK hP hD hS m_1183 dX12_only_7 (fun H locs hP hD hS => ?_)
  refine lv_aload_n hx hb dX12_only_10 rfl (lv_at hl 0 rfl) ?_
  refine lv_aload_n hx hb dX12_only_11 rfl (lv_at hl 0 rfl) ?_
  refine gM_12_43 hx hb ht hown hK hP m_1182 dX12_only_12 ?_
  refine lv_iload_n hx hb dX12_only_15 rfl (lv_at hl 1 rfl) ?_
  refine lM_12_43 hx hb hK hP (f := (la 12 43)) rfl (vp_in_iff.mpr (by decide)) dX12_only_16 ?_
  refine lv_topl (fun w2 ew2 => ?_)
  refine pM_12_45 (v := w2) hx hb ht hown hK hP hD hS m_1184 dX12_only_17 (fun H locs hP hD hS => ?_)
  have hP9 : va_P (dC, dI) classes (WM h g ca iv (u2 (u2 lv 12 44 w1) 12 45 w2) fa la) H := hP
  have hD9 : va_D A (WM h g ca iv (u2 (u2 lv 12 44 w1) 12 45 w2) fa la) := hD
  exact W.vret hx hb hr (fun t ht9 hW => ⟨⟨(iv, (u2 (u2 lv 12 44 w1) 12 45 w2), fa, la), rfl, ⟨w1, w2, (show (w1 : Int64).toInt = ((la 12 42) 2).toInt from congrArg Int64.toInt (by first | (simp only [ew2, ew1]; rfl) | simp only [ew2, ew1] | rfl)), (show (w2 : Int64).toInt = ((la 12 43) 2).toInt from congrArg Int64.toInt (by first | (simp only [ew2, ew1]; rfl) | simp only [ew2, ew1] | rfl)), rfl⟩, by rw [ht9]; exact hP9, hD9⟩, hS.F ht9⟩) hS.2.2 dX12_only_20
set_option maxHeartbeats 4000000 in
set_option maxRecDepth 100000 in
/-- X12_half -/
theorem c_X12_half_w01 (l : Launch) (dC : Nat → ClassId) (dI : Nat → Nat → Nat) (sz : Nat) (h : Nat) (g : Nat → Nat → Nat) (ca : Nat → Nat → ClassId) (iv : Nat → Nat → Int32) (lv : Nat → Nat → Int64) (fa : Nat → Nat → Nat → Int32) (la : Nat → Nat → Nat → Int64) (hI : IX iv fa) : Met l yX12_half (wc yX12_half cX12_half 3 none) ({ frames := 0, cells := 0, slots := 0, locals := 0 } : Room) (pW (dC, dI) classes (WM h g ca iv lv fa la) (TM ca) sz [.ref h, .int 0, .int 1]) (va_Qv (fun (u : SS) => ∃ (nl_12_44 : Int64) (nl_12_45 : Int64), ((nl_12_44).toInt = ((la 12 42) 0 * (la 12 43) 1 + (la 12 42) 1 * (la 12 43) 0).toInt) ∧ ((nl_12_45).toInt = (2 * (la 12 43) 0 * (la 12 43) 1).toInt) ∧ u = (iv, (u2 (u2 lv 12 44 nl_12_44) 12 45 nl_12_45), fa, la)) (bM (dC, dI) h g ca (va_A (WM h g ca iv lv fa la) sz)) (va_A (WM h g ca iv lv fa la) sz)) 0 0 (va_A (WM h g ca iv lv fa la) sz) := by
  refine Met.ofW (cc := cX12_half) (maxL := 3) (ret := none) (by decide) rfl ?_
  intro p e s m args below meth c s₁ B hml hv
  obtain ⟨rfl, hsz, hP, hK, hD0⟩ := hv
  have hx := B.exec
  have hb := B.bytes
  have hr := B.returns
  have ht := tb_tl (atoms_spec (ws := wc yX12_half cX12_half 3 none) B.pre)
  have hown : s.vm.findClass RX12 = some m.cls := findClass_of_methodNamed B.named
  have hlocks := B.notSynchronized
  subst hsz
  have hD := hD0.self (sz := s.heap.size)
  generalize hAe : va_A (WM h g ca iv lv fa la) s.heap.size = A at hD ⊢
  have hA : ∀ q : Nat, s.heap.size ≤ q → A q := fun q h => by rw [← hAe]; exact Or.inr h
  have hS : va_S A s.heap s.heap [] := va_S.rf
  have hl := lv_entry [.ref h, .int 0, .int 1] (n := 3) (Nat.le_of_ble_eq_true rfl)
  rw [lg_entry_eq]
  generalize (lg_sl [.ref h, .int 0, .int 1] ++ List.replicate (3 - (lg_sl [.ref h, .int 0, .int 1]).length) Slot.unset).toArray = ls at hl ⊢
  have hl : lv_has ls 3 [(0, .ref h), (1, .int 0), (2, .int 1)] := hl
  refine lv_aload_n hx hb dX12_half_0 rfl (lv_at hl 0 rfl) ?_
  refine lv_aload_n hx hb dX12_half_1 rfl (lv_at hl 0 rfl) ?_
  refine gM_12_42 hx hb ht hown hK hP m_1181 dX12_half_2 ?_
  refine lv_iload_n hx hb dX12_half_5 rfl (lv_at hl 1 rfl) ?_
  refine lM_12_42 hx hb hK hP (f := (la 12 42)) rfl (vp_in_iff.mpr (by decide)) dX12_half_6 ?_
  refine lv_topl (fun w1 ew1 => ?_)
  refine lv_aload_n hx hb dX12_half_7 rfl (lv_at hl 0 rfl) ?_
  refine gM_12_43 hx hb ht hown hK hP m_1182 dX12_half_8 ?_
  refine lv_iload_n hx hb dX12_half_11 rfl (lv_at hl 2 rfl) ?_
  refine lM_12_43 hx hb hK hP (f := (la 12 43)) rfl (vp_in_iff.mpr (by decide)) dX12_half_12 ?_
  refine lv_topl (fun w2 ew2 => ?_)
  refine lv_lmul hx hb dX12_half_13 ?_
  refine lv_topl (fun w3 ew3 => ?_)
  refine lv_aload_n hx hb dX12_half_14 rfl (lv_at hl 0 rfl) ?_
  refine gM_12_42 hx hb ht hown hK hP m_1181 dX12_half_15 ?_
  refine lv_iload_n hx hb dX12_half_18 rfl (lv_at hl 2 rfl) ?_
  refine lM_12_42 hx hb hK hP (f := (la 12 42)) rfl (vp_in_iff.mpr (by decide)) dX12_half_19 ?_
  refine lv_topl (fun w4 ew4 => ?_)
  refine lv_aload_n hx hb dX12_half_20 rfl (lv_at hl 0 rfl) ?_
  refine gM_12_43 hx hb ht hown hK hP m_1182 dX12_half_21 ?_
  refine lv_iload_n hx hb dX12_half_24 rfl (lv_at hl 1 rfl) ?_
  refine lM_12_43 hx hb hK hP (f := (la 12 43)) rfl (vp_in_iff.mpr (by decide)) dX12_half_25 ?_
  refine lv_topl (fun w5 ew5 => ?_)
  refine lv_lmul hx hb dX12_half_26 ?_
  refine lv_topl (fun w6 ew6 => ?_)
  refine lv_ladd hx hb dX12_half_27 ?_
  refine lv_topl (fun w7 ew7 => ?_)
  refine pM_12_44 (v := w7) hx hb ht hown hK hP hD hS m_1183 dX12_half_28 (fun H locs hP hD hS => ?_)
  refine lv_aload_n hx hb dX12_half_31 rfl (lv_at hl 0 rfl) ?_
  refine lv_ldc2 hx hb hown (ht _ m_1390) dX12_half_32 ?_
  refine lv_aload_n hx hb dX12_half_35 rfl (lv_at hl 0 rfl) ?_
  refine gM_12_43 hx hb ht hown hK hP m_1182 dX12_half_36 ?_
  refine lv_iload_n hx hb dX12_half_39 rfl (lv_at hl 1 rfl) ?_
  refine lM_12_43 hx hb hK hP (f := (la 12 43)) rfl (vp_in_iff.mpr (by decide)) dX12_half_40 ?_
  refine lv_topl (fun w8 ew8 => ?_)
  refine lv_lmul hx hb dX12_half_41 ?_
  refine lv_topl (fun w9 ew9 => ?_)
  refine lv_aload_n hx hb dX12_half_42 rfl (lv_at hl 0 rfl) ?_
  refine gM_12_43 hx hb ht hown hK hP m_1182 dX12_half_43 ?_
  refine lv_iload_n hx hb dX12_half_46 rfl (lv_at hl 2 rfl) ?_
  refine lM_12_43 hx hb hK hP (f := (la 12 43)) rfl (vp_in_iff.mpr (by decide)) dX12_half_47 ?_
  refine lv_topl (fun w10 ew10 => ?_)
  refine lv_lmul hx hb dX12_half_48 ?_
  refine lv_topl (fun w11 ew11 => ?_)
  refine pM_12_45 (v := w11) hx hb ht hown hK hP hD hS m_1184 dX12_half_49 (fun H locs hP hD hS => ?_)
  have hP9 : va_P (dC, dI) classes (WM h g ca iv (u2 (u2 lv 12 44 w7) 12 45 w11) fa la) H := hP
  have hD9 : va_D A (WM h g ca iv (u2 (u2 lv 12 44 w7) 12 45 w11) fa la) := hD
  exact W.vret hx hb hr (fun t ht9 hW => ⟨⟨(iv, (u2 (u2 lv 12 44 w7) 12 45 w11), fa, la), rfl, ⟨w7, w11, (show (w7 : Int64).toInt = ((la 12 42) 0 * (la 12 43) 1 + (la 12 42) 1 * (la 12 43) 0).toInt from congrArg Int64.toInt (by first | (simp only [ew11, ew10, ew9, ew8, ew7, ew6, ew5, ew4, ew3, ew2, ew1]; rfl) | simp only [ew11, ew10, ew9, ew8, ew7, ew6, ew5, ew4, ew3, ew2, ew1] | rfl)), (show (w11 : Int64).toInt = (2 * (la 12 43) 0 * (la 12 43) 1).toInt from congrArg Int64.toInt (by first | (simp only [ew11, ew10, ew9, ew8, ew7, ew6, ew5, ew4, ew3, ew2, ew1]; rfl) | simp only [ew11, ew10, ew9, ew8, ew7, ew6, ew5, ew4, ew3, ew2, ew1] | rfl)), rfl⟩, by rw [ht9]; exact hP9, hD9⟩, hS.F ht9⟩) hS.2.2 dX12_half_52
set_option maxHeartbeats 4000000 in
set_option maxRecDepth 100000 in
/-- X12_half -/
theorem c_X12_half_w02 (l : Launch) (dC : Nat → ClassId) (dI : Nat → Nat → Nat) (sz : Nat) (h : Nat) (g : Nat → Nat → Nat) (ca : Nat → Nat → ClassId) (iv : Nat → Nat → Int32) (lv : Nat → Nat → Int64) (fa : Nat → Nat → Nat → Int32) (la : Nat → Nat → Nat → Int64) (hI : IX iv fa) : Met l yX12_half (wc yX12_half cX12_half 3 none) ({ frames := 0, cells := 0, slots := 0, locals := 0 } : Room) (pW (dC, dI) classes (WM h g ca iv lv fa la) (TM ca) sz [.ref h, .int 0, .int 2]) (va_Qv (fun (u : SS) => ∃ (nl_12_44 : Int64) (nl_12_45 : Int64), ((nl_12_44).toInt = ((la 12 42) 0 * (la 12 43) 2 + (la 12 42) 2 * (la 12 43) 0).toInt) ∧ ((nl_12_45).toInt = (2 * (la 12 43) 0 * (la 12 43) 2).toInt) ∧ u = (iv, (u2 (u2 lv 12 44 nl_12_44) 12 45 nl_12_45), fa, la)) (bM (dC, dI) h g ca (va_A (WM h g ca iv lv fa la) sz)) (va_A (WM h g ca iv lv fa la) sz)) 0 0 (va_A (WM h g ca iv lv fa la) sz) := by
  refine Met.ofW (cc := cX12_half) (maxL := 3) (ret := none) (by decide) rfl ?_
  intro p e s m args below meth c s₁ B hml hv
  obtain ⟨rfl, hsz, hP, hK, hD0⟩ := hv
  have hx := B.exec
  have hb := B.bytes
  have hr := B.returns
  have ht := tb_tl (atoms_spec (ws := wc yX12_half cX12_half 3 none) B.pre)
  have hown : s.vm.findClass RX12 = some m.cls := findClass_of_methodNamed B.named
  have hlocks := B.notSynchronized
  subst hsz
  have hD := hD0.self (sz := s.heap.size)
  generalize hAe : va_A (WM h g ca iv lv fa la) s.heap.size = A at hD ⊢
  have hA : ∀ q : Nat, s.heap.size ≤ q → A q := fun q h => by rw [← hAe]; exact Or.inr h
  have hS : va_S A s.heap s.heap [] := va_S.rf
  have hl := lv_entry [.ref h, .int 0, .int 2] (n := 3) (Nat.le_of_ble_eq_true rfl)
  rw [lg_entry_eq]
  generalize (lg_sl [.ref h, .int 0, .int 2] ++ List.replicate (3 - (lg_sl [.ref h, .int 0, .int 2]).length) Slot.unset).toArray = ls at hl ⊢
  have hl : lv_has ls 3 [(0, .ref h), (1, .int 0), (2, .int 2)] := hl
  refine lv_aload_n hx hb dX12_half_0 rfl (lv_at hl 0 rfl) ?_
  refine lv_aload_n hx hb dX12_half_1 rfl (lv_at hl 0 rfl) ?_
  refine gM_12_42 hx hb ht hown hK hP m_1181 dX12_half_2 ?_
  refine lv_iload_n hx hb dX12_half_5 rfl (lv_at hl 1 rfl) ?_
  refine lM_12_42 hx hb hK hP (f := (la 12 42)) rfl (vp_in_iff.mpr (by decide)) dX12_half_6 ?_
  refine lv_topl (fun w1 ew1 => ?_)
  refine lv_aload_n hx hb dX12_half_7 rfl (lv_at hl 0 rfl) ?_
  refine gM_12_43 hx hb ht hown hK hP m_1182 dX12_half_8 ?_
  refine lv_iload_n hx hb dX12_half_11 rfl (lv_at hl 2 rfl) ?_
  refine lM_12_43 hx hb hK hP (f := (la 12 43)) rfl (vp_in_iff.mpr (by decide)) dX12_half_12 ?_
  refine lv_topl (fun w2 ew2 => ?_)
  refine lv_lmul hx hb dX12_half_13 ?_
  refine lv_topl (fun w3 ew3 => ?_)
  refine lv_aload_n hx hb dX12_half_14 rfl (lv_at hl 0 rfl) ?_
  refine gM_12_42 hx hb ht hown hK hP m_1181 dX12_half_15 ?_
  refine lv_iload_n hx hb dX12_half_18 rfl (lv_at hl 2 rfl) ?_
  refine lM_12_42 hx hb hK hP (f := (la 12 42)) rfl (vp_in_iff.mpr (by decide)) dX12_half_19 ?_
  refine lv_topl (fun w4 ew4 => ?_)
  refine lv_aload_n hx hb dX12_half_20 rfl (lv_at hl 0 rfl) ?_
  refine gM_12_43 hx hb ht hown hK hP m_1182 dX12_half_21 ?_
  refine lv_iload_n hx hb dX12_half_24 rfl (lv_at hl 1 rfl) ?_
  refine lM_12_43 hx hb hK hP (f := (la 12 43)) rfl (vp_in_iff.mpr (by decide)) dX12_half_25 ?_
  refine lv_topl (fun w5 ew5 => ?_)
  refine lv_lmul hx hb dX12_half_26 ?_
  refine lv_topl (fun w6 ew6 => ?_)
  refine lv_ladd hx hb dX12_half_27 ?_
  refine lv_topl (fun w7 ew7 => ?_)
  refine pM_12_44 (v := w7) hx hb ht hown hK hP hD hS m_1183 dX12_half_28 (fun H locs hP hD hS => ?_)
  refine lv_aload_n hx hb dX12_half_31 rfl (lv_at hl 0 rfl) ?_
  refine lv_ldc2 hx hb hown (ht _ m_1390) dX12_half_32 ?_
  refine lv_aload_n hx hb dX12_half_35 rfl (lv_at hl 0 rfl) ?_
  refine gM_12_43 hx hb ht hown hK hP m_1182 dX12_half_36 ?_
  refine lv_iload_n hx hb dX12_half_39 rfl (lv_at hl 1 rfl) ?_
  refine lM_12_43 hx hb hK hP (f := (la 12 43)) rfl (vp_in_iff.mpr (by decide)) dX12_half_40 ?_
  refine lv_topl (fun w8 ew8 => ?_)
  refine lv_lmul hx hb dX12_half_41 ?_
  refine lv_topl (fun w9 ew9 => ?_)
  refine lv_aload_n hx hb dX12_half_42 rfl (lv_at hl 0 rfl) ?_
  refine gM_12_43 hx hb ht hown hK hP m_1182 dX12_half_43 ?_
  refine lv_iload_n hx hb dX12_half_46 rfl (lv_at hl 2 rfl) ?_
  refine lM_12_43 hx hb hK hP (f := (la 12 43)) rfl (vp_in_iff.mpr (by decide)) dX12_half_47 ?_
  refine lv_topl (fun w10 ew10 => ?_)
  refine lv_lmul hx hb dX12_half_48 ?_
  refine lv_topl (fun w11 ew11 => ?_)
  refine pM_12_45 (v := w11) hx hb ht hown hK hP hD hS m_1184 dX12_half_49 (fun H locs hP hD hS => ?_)
  have hP9 : va_P (dC, dI) classes (WM h g ca iv (u2 (u2 lv 12 44 w7) 12 45 w11) fa la) H := hP
  have hD9 : va_D A (WM h g ca iv (u2 (u2 lv 12 44 w7) 12 45 w11) fa la) := hD
  exact W.vret hx hb hr (fun t ht9 hW => ⟨⟨(iv, (u2 (u2 lv 12 44 w7) 12 45 w11), fa, la), rfl, ⟨w7, w11, (show (w7 : Int64).toInt = ((la 12 42) 0 * (la 12 43) 2 + (la 12 42) 2 * (la 12 43) 0).toInt from congrArg Int64.toInt (by first | (simp only [ew11, ew10, ew9, ew8, ew7, ew6, ew5, ew4, ew3, ew2, ew1]; rfl) | simp only [ew11, ew10, ew9, ew8, ew7, ew6, ew5, ew4, ew3, ew2, ew1] | rfl)), (show (w11 : Int64).toInt = (2 * (la 12 43) 0 * (la 12 43) 2).toInt from congrArg Int64.toInt (by first | (simp only [ew11, ew10, ew9, ew8, ew7, ew6, ew5, ew4, ew3, ew2, ew1]; rfl) | simp only [ew11, ew10, ew9, ew8, ew7, ew6, ew5, ew4, ew3, ew2, ew1] | rfl)), rfl⟩, by rw [ht9]; exact hP9, hD9⟩, hS.F ht9⟩) hS.2.2 dX12_half_52
set_option maxHeartbeats 4000000 in
set_option maxRecDepth 100000 in
/-- X12_half -/
theorem c_X12_half_w12 (l : Launch) (dC : Nat → ClassId) (dI : Nat → Nat → Nat) (sz : Nat) (h : Nat) (g : Nat → Nat → Nat) (ca : Nat → Nat → ClassId) (iv : Nat → Nat → Int32) (lv : Nat → Nat → Int64) (fa : Nat → Nat → Nat → Int32) (la : Nat → Nat → Nat → Int64) (hI : IX iv fa) : Met l yX12_half (wc yX12_half cX12_half 3 none) ({ frames := 0, cells := 0, slots := 0, locals := 0 } : Room) (pW (dC, dI) classes (WM h g ca iv lv fa la) (TM ca) sz [.ref h, .int 1, .int 2]) (va_Qv (fun (u : SS) => ∃ (nl_12_44 : Int64) (nl_12_45 : Int64), ((nl_12_44).toInt = ((la 12 42) 1 * (la 12 43) 2 + (la 12 42) 2 * (la 12 43) 1).toInt) ∧ ((nl_12_45).toInt = (2 * (la 12 43) 1 * (la 12 43) 2).toInt) ∧ u = (iv, (u2 (u2 lv 12 44 nl_12_44) 12 45 nl_12_45), fa, la)) (bM (dC, dI) h g ca (va_A (WM h g ca iv lv fa la) sz)) (va_A (WM h g ca iv lv fa la) sz)) 0 0 (va_A (WM h g ca iv lv fa la) sz) := by
  refine Met.ofW (cc := cX12_half) (maxL := 3) (ret := none) (by decide) rfl ?_
  intro p e s m args below meth c s₁ B hml hv
  obtain ⟨rfl, hsz, hP, hK, hD0⟩ := hv
  have hx := B.exec
  have hb := B.bytes
  have hr := B.returns
  have ht := tb_tl (atoms_spec (ws := wc yX12_half cX12_half 3 none) B.pre)
  have hown : s.vm.findClass RX12 = some m.cls := findClass_of_methodNamed B.named
  have hlocks := B.notSynchronized
  subst hsz
  have hD := hD0.self (sz := s.heap.size)
  generalize hAe : va_A (WM h g ca iv lv fa la) s.heap.size = A at hD ⊢
  have hA : ∀ q : Nat, s.heap.size ≤ q → A q := fun q h => by rw [← hAe]; exact Or.inr h
  have hS : va_S A s.heap s.heap [] := va_S.rf
  have hl := lv_entry [.ref h, .int 1, .int 2] (n := 3) (Nat.le_of_ble_eq_true rfl)
  rw [lg_entry_eq]
  generalize (lg_sl [.ref h, .int 1, .int 2] ++ List.replicate (3 - (lg_sl [.ref h, .int 1, .int 2]).length) Slot.unset).toArray = ls at hl ⊢
  have hl : lv_has ls 3 [(0, .ref h), (1, .int 1), (2, .int 2)] := hl
  refine lv_aload_n hx hb dX12_half_0 rfl (lv_at hl 0 rfl) ?_
  refine lv_aload_n hx hb dX12_half_1 rfl (lv_at hl 0 rfl) ?_
  refine gM_12_42 hx hb ht hown hK hP m_1181 dX12_half_2 ?_
  refine lv_iload_n hx hb dX12_half_5 rfl (lv_at hl 1 rfl) ?_
  refine lM_12_42 hx hb hK hP (f := (la 12 42)) rfl (vp_in_iff.mpr (by decide)) dX12_half_6 ?_
  refine lv_topl (fun w1 ew1 => ?_)
  refine lv_aload_n hx hb dX12_half_7 rfl (lv_at hl 0 rfl) ?_
  refine gM_12_43 hx hb ht hown hK hP m_1182 dX12_half_8 ?_
  refine lv_iload_n hx hb dX12_half_11 rfl (lv_at hl 2 rfl) ?_
  refine lM_12_43 hx hb hK hP (f := (la 12 43)) rfl (vp_in_iff.mpr (by decide)) dX12_half_12 ?_
  refine lv_topl (fun w2 ew2 => ?_)
  refine lv_lmul hx hb dX12_half_13 ?_
  refine lv_topl (fun w3 ew3 => ?_)
  refine lv_aload_n hx hb dX12_half_14 rfl (lv_at hl 0 rfl) ?_
  refine gM_12_42 hx hb ht hown hK hP m_1181 dX12_half_15 ?_
  refine lv_iload_n hx hb dX12_half_18 rfl (lv_at hl 2 rfl) ?_
  refine lM_12_42 hx hb hK hP (f := (la 12 42)) rfl (vp_in_iff.mpr (by decide)) dX12_half_19 ?_
  refine lv_topl (fun w4 ew4 => ?_)
  refine lv_aload_n hx hb dX12_half_20 rfl (lv_at hl 0 rfl) ?_
  refine gM_12_43 hx hb ht hown hK hP m_1182 dX12_half_21 ?_
  refine lv_iload_n hx hb dX12_half_24 rfl (lv_at hl 1 rfl) ?_
  refine lM_12_43 hx hb hK hP (f := (la 12 43)) rfl (vp_in_iff.mpr (by decide)) dX12_half_25 ?_
  refine lv_topl (fun w5 ew5 => ?_)
  refine lv_lmul hx hb dX12_half_26 ?_
  refine lv_topl (fun w6 ew6 => ?_)
  refine lv_ladd hx hb dX12_half_27 ?_
  refine lv_topl (fun w7 ew7 => ?_)
  refine pM_12_44 (v := w7) hx hb ht hown hK hP hD hS m_1183 dX12_half_28 (fun H locs hP hD hS => ?_)
  refine lv_aload_n hx hb dX12_half_31 rfl (lv_at hl 0 rfl) ?_
  refine lv_ldc2 hx hb hown (ht _ m_1390) dX12_half_32 ?_
  refine lv_aload_n hx hb dX12_half_35 rfl (lv_at hl 0 rfl) ?_
  refine gM_12_43 hx hb ht hown hK hP m_1182 dX12_half_36 ?_
  refine lv_iload_n hx hb dX12_half_39 rfl (lv_at hl 1 rfl) ?_
  refine lM_12_43 hx hb hK hP (f := (la 12 43)) rfl (vp_in_iff.mpr (by decide)) dX12_half_40 ?_
  refine lv_topl (fun w8 ew8 => ?_)
  refine lv_lmul hx hb dX12_half_41 ?_
  refine lv_topl (fun w9 ew9 => ?_)
  refine lv_aload_n hx hb dX12_half_42 rfl (lv_at hl 0 rfl) ?_
  refine gM_12_43 hx hb ht hown hK hP m_1182 dX12_half_43 ?_
  refine lv_iload_n hx hb dX12_half_46 rfl (lv_at hl 2 rfl) ?_
  refine lM_12_43 hx hb hK hP (f := (la 12 43)) rfl (vp_in_iff.mpr (by decide)) dX12_half_47 ?_
  refine lv_topl (fun w10 ew10 => ?_)
  refine lv_lmul hx hb dX12_half_48 ?_
  refine lv_topl (fun w11 ew11 => ?_)
  refine pM_12_45 (v := w11) hx hb ht hown hK hP hD hS m_1184 dX12_half_49 (fun H locs hP hD hS => ?_)
  have hP9 : va_P (dC, dI) classes (WM h g ca iv (u2 (u2 lv 12 44 w7) 12 45 w11) fa la) H := hP
  have hD9 : va_D A (WM h g ca iv (u2 (u2 lv 12 44 w7) 12 45 w11) fa la) := hD
  exact W.vret hx hb hr (fun t ht9 hW => ⟨⟨(iv, (u2 (u2 lv 12 44 w7) 12 45 w11), fa, la), rfl, ⟨w7, w11, (show (w7 : Int64).toInt = ((la 12 42) 1 * (la 12 43) 2 + (la 12 42) 2 * (la 12 43) 1).toInt from congrArg Int64.toInt (by first | (simp only [ew11, ew10, ew9, ew8, ew7, ew6, ew5, ew4, ew3, ew2, ew1]; rfl) | simp only [ew11, ew10, ew9, ew8, ew7, ew6, ew5, ew4, ew3, ew2, ew1] | rfl)), (show (w11 : Int64).toInt = (2 * (la 12 43) 1 * (la 12 43) 2).toInt from congrArg Int64.toInt (by first | (simp only [ew11, ew10, ew9, ew8, ew7, ew6, ew5, ew4, ew3, ew2, ew1]; rfl) | simp only [ew11, ew10, ew9, ew8, ew7, ew6, ew5, ew4, ew3, ew2, ew1] | rfl)), rfl⟩, by rw [ht9]; exact hP9, hD9⟩, hS.F ht9⟩) hS.2.2 dX12_half_52
set_option maxHeartbeats 4000000 in
set_option maxRecDepth 100000 in
/-- X12_isLess -/
theorem c_X12_isLess_w (l : Launch) (dC : Nat → ClassId) (dI : Nat → Nat → Nat) (h : Nat) (g : Nat → Nat → Nat) (ca : Nat → Nat → ClassId) (iv : Nat → Nat → Int32) (lv : Nat → Nat → Int64) (fa : Nat → Nat → Nat → Int32) (la : Nat → Nat → Nat → Int64) (hI : IX iv fa) (a : Int32) (b : Int32) (h_a : 0 ≤ a.toInt ∧ a.toInt ≤ 2) (h_b : 0 ≤ b.toInt ∧ b.toInt ≤ 2) : Met l yX12_isLess (wc yX12_isLess cX12_isLess 3 (some .boolean)) ({ frames := 0, cells := 0, slots := 0, locals := 0 } : Room) (pR (dC, dI) classes (WM h g ca iv lv fa la) (TM ca) [.ref h, .int a, .int b]) (vp_Si (fun r => (0 ≤ r.toInt ∧ r.toInt ≤ 1) ∧ (((r.toInt = 1 ∧ ((la 12 42) (a.toInt).toNat * (la 12 43) (b.toInt).toNat).toInt < ((la 12 42) (b.toInt).toNat * (la 12 43) (a.toInt).toNat).toInt) ∨ (r.toInt = 0 ∧ ¬ ((la 12 42) (a.toInt).toNat * (la 12 43) (b.toInt).toNat).toInt < ((la 12 42) (b.toInt).toNat * (la 12 43) (a.toInt).toNat).toInt))))) 0 0 (fun _ => False) := by
  refine Met.ofW (cc := cX12_isLess) (maxL := 3) (ret := (some .boolean)) (by decide) rfl ?_
  intro p e s m args below meth c s₁ B hml hv
  obtain ⟨rfl, hP, hK⟩ := hv
  have hx := B.exec
  have hb := B.bytes
  have hr := B.returns
  have ht := tb_tl (atoms_spec (ws := wc yX12_isLess cX12_isLess 3 (some .boolean)) B.pre)
  have hown : s.vm.findClass RX12 = some m.cls := findClass_of_methodNamed B.named
  have hlocks := B.notSynchronized
  have hl := lv_entry [.ref h, .int a, .int b] (n := 3) (Nat.le_of_ble_eq_true rfl)
  rw [lg_entry_eq]
  generalize (lg_sl [.ref h, .int a, .int b] ++ List.replicate (3 - (lg_sl [.ref h, .int a, .int b]).length) Slot.unset).toArray = ls at hl ⊢
  have hl : lv_has ls 3 [(0, .ref h), (1, .int a), (2, .int b)] := hl
  refine lv_aload_n hx hb dX12_isLess_0 rfl (lv_at hl 0 rfl) ?_
  refine gM_12_42 hx hb ht hown hK hP m_1181 dX12_isLess_1 ?_
  refine lv_iload_n hx hb dX12_isLess_4 rfl (lv_at hl 1 rfl) ?_
  refine lM_12_42 hx hb hK hP (f := (la 12 42)) rfl (vp_in_iff.mpr ⟨by omega, by omega⟩) dX12_isLess_5 ?_
  refine lv_topl (fun w1 ew1 => ?_)
  refine lv_aload_n hx hb dX12_isLess_6 rfl (lv_at hl 0 rfl) ?_
  refine gM_12_43 hx hb ht hown hK hP m_1182 dX12_isLess_7 ?_
  refine lv_iload_n hx hb dX12_isLess_10 rfl (lv_at hl 2 rfl) ?_
  refine lM_12_43 hx hb hK hP (f := (la 12 43)) rfl (vp_in_iff.mpr ⟨by omega, by omega⟩) dX12_isLess_11 ?_
  refine lv_topl (fun w2 ew2 => ?_)
  refine lv_lmul hx hb dX12_isLess_12 ?_
  refine lv_topl (fun w3 ew3 => ?_)
  refine lv_aload_n hx hb dX12_isLess_13 rfl (lv_at hl 0 rfl) ?_
  refine gM_12_42 hx hb ht hown hK hP m_1181 dX12_isLess_14 ?_
  refine lv_iload_n hx hb dX12_isLess_17 rfl (lv_at hl 2 rfl) ?_
  refine lM_12_42 hx hb hK hP (f := (la 12 42)) rfl (vp_in_iff.mpr ⟨by omega, by omega⟩) dX12_isLess_18 ?_
  refine lv_topl (fun w4 ew4 => ?_)
  refine lv_aload_n hx hb dX12_isLess_19 rfl (lv_at hl 0 rfl) ?_
  refine gM_12_43 hx hb ht hown hK hP m_1182 dX12_isLess_20 ?_
  refine lv_iload_n hx hb dX12_isLess_23 rfl (lv_at hl 1 rfl) ?_
  refine lM_12_43 hx hb hK hP (f := (la 12 43)) rfl (vp_in_iff.mpr ⟨by omega, by omega⟩) dX12_isLess_24 ?_
  refine lv_topl (fun w5 ew5 => ?_)
  refine lv_lmul hx hb dX12_isLess_25 ?_
  refine lv_topl (fun w6 ew6 => ?_)
  refine W.lcmp hx hb dX12_isLess_26 ?_
  refine lv_topi (fun v7 ev7 => ?_)
  refine lv_if_ge (tgt := 34) hx hb dX12_isLess_27 (by decide) (fun c8 => ?_) (fun c8 => ?_)
  · have fc8 := zc_nlt ev7 (rfl : (w3).toInt = _) (rfl : (w6).toInt = _) (Int32.not_lt.mpr c8)
    refine lv_iconst (v := 0) hx hb dX12_isLess_34 (by decide) ?_
    have : (0 : Int32).toInt = 0 := (by decide)
    exact W.zret (v := 0) hx hb hr rfl (fun t ht9 hW => ⟨0, rfl, ⟨⟨by decide, by decide⟩, (show (((0 : Int32).toInt = 1 ∧ ((la 12 42) ((a).toInt).toNat * (la 12 43) ((b).toInt).toNat).toInt < ((la 12 42) ((b).toInt).toNat * (la 12 43) ((a).toInt).toNat).toInt) ∨ ((0 : Int32).toInt = 0 ∧ ¬ ((la 12 42) ((a).toInt).toNat * (la 12 43) ((b).toInt).toNat).toInt < ((la 12 42) ((b).toInt).toNat * (la 12 43) ((a).toInt).toNat).toInt)) from (Or.inr ⟨by decide, fun z9 => absurd z9 (Int.not_lt.mpr (by have h9 := fc8; simp only [ew6, ew5, ew4, ew3, ew2, ew1] at h9; exact h9))⟩))⟩, ht9⟩) (fun q hq => by cases hq) dX12_isLess_35
  · have fc8 := zc_lt ev7 (rfl : (w3).toInt = _) (rfl : (w6).toInt = _) (Int32.not_le.mp c8)
    refine lv_iconst (v := 1) hx hb dX12_isLess_30 (by decide) ?_
    refine lv_goto (tgt := 35) hx hb dX12_isLess_31 (by decide) ?_
    have : (1 : Int32).toInt = 1 := (by decide)
    exact W.zret (v := 1) hx hb hr rfl (fun t ht9 hW => ⟨1, rfl, ⟨⟨by decide, by decide⟩, (show (((1 : Int32).toInt = 1 ∧ ((la 12 42) ((a).toInt).toNat * (la 12 43) ((b).toInt).toNat).toInt < ((la 12 42) ((b).toInt).toNat * (la 12 43) ((a).toInt).toNat).toInt) ∨ ((1 : Int32).toInt = 0 ∧ ¬ ((la 12 42) ((a).toInt).toNat * (la 12 43) ((b).toInt).toNat).toInt < ((la 12 42) ((b).toInt).toNat * (la 12 43) ((a).toInt).toNat).toInt)) from (Or.inl ⟨by decide, (by have h9 := fc8; simp only [ew6, ew5, ew4, ew3, ew2, ew1] at h9; exact h9)⟩))⟩, ht9⟩) (fun q hq => by cases hq) dX12_isLess_35
set_option maxHeartbeats 4000000 in
set_option maxRecDepth 100000 in
/-- X12_settleThree -/
theorem c_X12_settleThree_w (l : Launch) (dC : Nat → ClassId) (dI : Nat → Nat → Nat) (sz : Nat) (h : Nat) (g : Nat → Nat → Nat) (ca : Nat → Nat → ClassId) (iv : Nat → Nat → Int32) (lv : Nat → Nat → Int64) (fa : Nat → Nat → Nat → Int32) (la : Nat → Nat → Nat → Int64) (hI : IX iv fa) (a : Int32) : Met l yX12_settleThree (wc yX12_settleThree cX12_settleThree 14 none) ({ frames := 1, cells := 0, slots := 0, locals := 22 } : Room) (pW (dC, dI) classes (WM h g ca iv lv fa la) (TM ca) sz [.ref h, .int a]) (va_Qv (fun (u : SS) => ∃ (nl_12_44 : Int64) (nl_12_45 : Int64), (thY (la 12 42) (la 12 43) (nl_12_44).toInt (nl_12_45).toInt a.toInt) ∧ u = (iv, (u2 (u2 lv 12 44 nl_12_44) 12 45 nl_12_45), fa, la)) (bM (dC, dI) h g ca (va_A (WM h g ca iv lv fa la) sz)) (va_A (WM h g ca iv lv fa la) sz)) 0 0 (va_A (WM h g ca iv lv fa la) sz) := by
  refine Met.ofW (cc := cX12_settleThree) (maxL := 14) (ret := none) (by decide) rfl ?_
  intro p e s m args below meth c s₁ B hml hv
  obtain ⟨rfl, hsz, hP, hK, hD0⟩ := hv
  have hx := B.exec
  have hb := B.bytes
  have hr := B.returns
  have ht := tb_tl (atoms_spec (ws := wc yX12_settleThree cX12_settleThree 14 none) B.pre)
  have hown : s.vm.findClass RX12 = some m.cls := findClass_of_methodNamed B.named
  have hlocks := B.notSynchronized
  subst hsz
  have hD := hD0.self (sz := s.heap.size)
  generalize hAe : va_A (WM h g ca iv lv fa la) s.heap.size = A at hD ⊢
  have hA : ∀ q : Nat, s.heap.size ≤ q → A q := fun q h => by rw [← hAe]; exact Or.inr h
  have hS : va_S A s.heap s.heap [] := va_S.rf
  have hl := lv_entry [.ref h, .int a] (n := 14) (Nat.le_of_ble_eq_true rfl)
  rw [lg_entry_eq]
  generalize (lg_sl [.ref h, .int a] ++ List.replicate (14 - (lg_sl [.ref h, .int a]).length) Slot.unset).toArray = ls at hl ⊢
  have hl : lv_has ls 14 [(0, .ref h), (1, .int a)] := hl
  refine lv_aload_n hx hb dX12_settleThree_0 rfl (lv_at hl 0 rfl) ?_
  refine gM_12_42 hx hb ht hown hK hP m_1181 dX12_settleThree_1 ?_
  refine lv_iconst (v := 0) hx hb dX12_settleThree_4 (by decide) ?_
  refine lM_12_42 hx hb hK hP (f := (la 12 42)) rfl (vp_in_iff.mpr (by decide)) dX12_settleThree_5 ?_
  refine lv_topl (fun w1 ew1 => ?_)
  refine lv_aload_n hx hb dX12_settleThree_6 rfl (lv_at hl 0 rfl) ?_
  refine gM_12_43 hx hb ht hown hK hP m_1182 dX12_settleThree_7 ?_
  refine lv_iconst (v := 1) hx hb dX12_settleThree_10 (by decide) ?_
  refine lM_12_43 hx hb hK hP (f := (la 12 43)) rfl (vp_in_iff.mpr (by decide)) dX12_settleThree_11 ?_
  refine lv_topl (fun w2 ew2 => ?_)
  refine lv_lmul hx hb dX12_settleThree_12 ?_
  refine lv_topl (fun w3 ew3 => ?_)
  refine lv_aload_n hx hb dX12_settleThree_13 rfl (lv_at hl 0 rfl) ?_
  refine gM_12_43 hx hb ht hown hK hP m_1182 dX12_settleThree_14 ?_
  refine lv_iconst (v := 2) hx hb dX12_settleThree_17 (by decide) ?_
  refine lM_12_43 hx hb hK hP (f := (la 12 43)) rfl (vp_in_iff.mpr (by decide)) dX12_settleThree_18 ?_
  refine lv_topl (fun w4 ew4 => ?_)
  refine lv_lmul hx hb dX12_settleThree_19 ?_
  refine lv_topl (fun w5 ew5 => ?_)
  have ka : w5 = (la 12 42) 0 * (la 12 43) 1 * (la 12 43) 2 := by first | (simp only [ew5, ew4, ew3, ew2, ew1]; rfl) | simp only [ew5, ew4, ew3, ew2, ew1]
  refine lv_lstore_n (lv' := [(2, .long w5), (0, .ref h), (1, .int a)]) hx hb dX12_settleThree_20 rfl hl (by decide) rfl (fun ls hl => ?_)
  refine lv_aload_n hx hb dX12_settleThree_21 rfl (lv_at hl 1 rfl) ?_
  refine gM_12_42 hx hb ht hown hK hP m_1181 dX12_settleThree_22 ?_
  refine lv_iconst (v := 1) hx hb dX12_settleThree_25 (by decide) ?_
  refine lM_12_42 hx hb hK hP (f := (la 12 42)) rfl (vp_in_iff.mpr (by decide)) dX12_settleThree_26 ?_
  refine lv_topl (fun w6 ew6 => ?_)
  refine lv_aload_n hx hb dX12_settleThree_27 rfl (lv_at hl 1 rfl) ?_
  refine gM_12_43 hx hb ht hown hK hP m_1182 dX12_settleThree_28 ?_
  refine lv_iconst (v := 0) hx hb dX12_settleThree_31 (by decide) ?_
  refine lM_12_43 hx hb hK hP (f := (la 12 43)) rfl (vp_in_iff.mpr (by decide)) dX12_settleThree_32 ?_
  refine lv_topl (fun w7 ew7 => ?_)
  refine lv_lmul hx hb dX12_settleThree_33 ?_
  refine lv_topl (fun w8 ew8 => ?_)
  refine lv_aload_n hx hb dX12_settleThree_34 rfl (lv_at hl 1 rfl) ?_
  refine gM_12_43 hx hb ht hown hK hP m_1182 dX12_settleThree_35 ?_
  refine lv_iconst (v := 2) hx hb dX12_settleThree_38 (by decide) ?_
  refine lM_12_43 hx hb hK hP (f := (la 12 43)) rfl (vp_in_iff.mpr (by decide)) dX12_settleThree_39 ?_
  refine lv_topl (fun w9 ew9 => ?_)
  refine lv_lmul hx hb dX12_settleThree_40 ?_
  refine lv_topl (fun w10 ew10 => ?_)
  have kb : w10 = (la 12 42) 1 * (la 12 43) 0 * (la 12 43) 2 := by first | (simp only [ew10, ew9, ew8, ew7, ew6, ew5, ew4, ew3, ew2, ew1]; rfl) | simp only [ew10, ew9, ew8, ew7, ew6, ew5, ew4, ew3, ew2, ew1]
  refine lv_lstore (lv' := [(4, .long w10), (2, .long w5), (0, .ref h), (1, .int a)]) hx hb dX12_settleThree_41 hl (by decide) rfl (fun ls hl => ?_)
  refine lv_aload_n hx hb dX12_settleThree_43 rfl (lv_at hl 2 rfl) ?_
  refine gM_12_42 hx hb ht hown hK hP m_1181 dX12_settleThree_44 ?_
  refine lv_iconst (v := 2) hx hb dX12_settleThree_47 (by decide) ?_
  refine lM_12_42 hx hb hK hP (f := (la 12 42)) rfl (vp_in_iff.mpr (by decide)) dX12_settleThree_48 ?_
  refine lv_topl (fun w11 ew11 => ?_)
  refine lv_aload_n hx hb dX12_settleThree_49 rfl (lv_at hl 2 rfl) ?_
  refine gM_12_43 hx hb ht hown hK hP m_1182 dX12_settleThree_50 ?_
  refine lv_iconst (v := 0) hx hb dX12_settleThree_53 (by decide) ?_
  refine lM_12_43 hx hb hK hP (f := (la 12 43)) rfl (vp_in_iff.mpr (by decide)) dX12_settleThree_54 ?_
  refine lv_topl (fun w12 ew12 => ?_)
  refine lv_lmul hx hb dX12_settleThree_55 ?_
  refine lv_topl (fun w13 ew13 => ?_)
  refine lv_aload_n hx hb dX12_settleThree_56 rfl (lv_at hl 2 rfl) ?_
  refine gM_12_43 hx hb ht hown hK hP m_1182 dX12_settleThree_57 ?_
  refine lv_iconst (v := 1) hx hb dX12_settleThree_60 (by decide) ?_
  refine lM_12_43 hx hb hK hP (f := (la 12 43)) rfl (vp_in_iff.mpr (by decide)) dX12_settleThree_61 ?_
  refine lv_topl (fun w14 ew14 => ?_)
  refine lv_lmul hx hb dX12_settleThree_62 ?_
  refine lv_topl (fun w15 ew15 => ?_)
  have kc : w15 = (la 12 42) 2 * (la 12 43) 0 * (la 12 43) 1 := by first | (simp only [ew15, ew14, ew13, ew12, ew11, ew10, ew9, ew8, ew7, ew6, ew5, ew4, ew3, ew2, ew1]; rfl) | simp only [ew15, ew14, ew13, ew12, ew11, ew10, ew9, ew8, ew7, ew6, ew5, ew4, ew3, ew2, ew1]
  refine lv_lstore (lv' := [(6, .long w15), (4, .long w10), (2, .long w5), (0, .ref h), (1, .int a)]) hx hb dX12_settleThree_63 hl (by decide) rfl (fun ls hl => ?_)
  refine lv_iload_n hx hb dX12_settleThree_65 rfl (lv_at hl 4 rfl) ?_
  refine lv_if_ne (tgt := 148) hx hb dX12_settleThree_66 (by decide) (fun c16 => ?_) (fun c16 => ?_)
  · have fc16 := z_ne (rfl : (a).toInt = _) (by decide : (0 : Int32).toInt = 0) c16
    refine lv_iload_n hx hb dX12_settleThree_148 rfl (lv_at hl 4 rfl) ?_
    refine lv_iconst (v := 1) hx hb dX12_settleThree_149 (by decide) ?_
    refine lv_icmp_ne (tgt := 191) hx hb dX12_settleThree_150 (by decide) (fun c17 => ?_) (fun c17 => ?_)
    · have fc17 := z_ne (rfl : (a).toInt = _) (by decide : (1 : Int32).toInt = 1) c17
      refine lv_aload_n hx hb dX12_settleThree_191 rfl (lv_at hl 3 rfl) ?_
      refine lv_lload_n hx hb dX12_settleThree_192 rfl (lv_at hl 2 rfl) ?_
      refine lv_lload hx hb dX12_settleThree_193 (lv_at hl 1 rfl) ?_
      refine W.lcmp hx hb dX12_settleThree_195 ?_
      refine lv_topi (fun v18 ev18 => ?_)
      refine lv_if_gt (tgt := 203) hx hb dX12_settleThree_196 (by decide) (fun c19 => ?_) (fun c19 => ?_)
      · have fc19 := zc_gt ev18 (rfl : (w5).toInt = _) (rfl : (w10).toInt = _) c19
        refine lv_iconst (v := 0) hx hb dX12_settleThree_203 (by decide) ?_
        refine lv_lload hx hb dX12_settleThree_204 (lv_at hl 1 rfl) ?_
        refine lv_lload hx hb dX12_settleThree_206 (lv_at hl 0 rfl) ?_
        refine W.lcmp hx hb dX12_settleThree_208 ?_
        refine lv_topi (fun v20 ev20 => ?_)
        refine lv_if_gt (tgt := 216) hx hb dX12_settleThree_209 (by decide) (fun c21 => ?_) (fun c21 => ?_)
        · have fc21 := zc_gt ev20 (rfl : (w10).toInt = _) (rfl : (w15).toInt = _) c21
          refine lv_iconst (v := 0) hx hb dX12_settleThree_216 (by decide) ?_
          refine lv_icmp_ne (tgt := 224) hx hb dX12_settleThree_217 (by decide) (fun c22 => ?_) (fun c22 => ?_)
          · exact absurd rfl c22
          · skip
            refine lv_iconst (v := 1) hx hb dX12_settleThree_220 (by decide) ?_
            refine lv_goto (tgt := 256) hx hb dX12_settleThree_221 (by decide) ?_
            have hFc := free_all hD hS hA
            refine va_callv (va_runV (As := [.int 1]) (rest := []) ⟨hx, hb, hml, hown, ht⟩ (c_X12_only_w1 l dC dI s.heap.size h g ca iv lv fa la hI) (kV 1 ht m_1536 m_1538 m_59 m_89 m_1539 rfl rfl hd_X12_only_v ⟨Nat.le_of_ble_eq_true rfl, Nat.le_of_ble_eq_true rfl⟩) (vW hP hK hD (rM_12 hK hP)) rfl rfl hl.1 rfl (lv_room (Nat.le_of_ble_eq_true rfl)) dX12_settleThree_256 ⟨Nat.le_of_ble_eq_true rfl, Nat.le_of_ble_eq_true rfl⟩) hS (fun q _ h => hFc q h) hFc (fun u t H1 locs ht9 hvm hr23 hB hz1 hk1 hS => ?_)
            obtain ⟨n24, n25, xr23_0, xr23_1, rfl⟩ := hr23
            obtain ⟨hP, hD⟩ := hB
            rw [ht9] at hP
            generalize H1 = H at hP hS ⊢
            have hP : va_P (dC, dI) classes (WM h g ca iv (u2 (u2 lv 12 44 n24) 12 45 n25) fa la) H := hP
            have hD : va_D A (WM h g ca iv (u2 (u2 lv 12 44 n24) 12 45 n25) fa la) := (show va_D _ (WM h g ca iv (u2 (u2 lv 12 44 n24) 12 45 n25) fa la) from hD).weaken (fun _ _ _ h => hFc _ h)
            have xr23_0 : (n24 : Int64).toInt = ((la 12 42) 1).toInt := xr23_0
            have xr23_1 : (n25 : Int64).toInt = ((la 12 43) 1).toInt := xr23_1
            have hP9 : va_P (dC, dI) classes (WM h g ca iv (u2 (u2 lv 12 44 n24) 12 45 n25) fa la) H := hP
            have hD9 : va_D A (WM h g ca iv (u2 (u2 lv 12 44 n24) 12 45 n25) fa la) := hD
            exact W.vret hx hb hr (fun t ht9 hW => ⟨⟨(iv, (u2 (u2 lv 12 44 n24) 12 45 n25), fa, la), rfl, ⟨n24, n25, (show thY (la 12 42) (la 12 43) (n24 : Int64).toInt (n25 : Int64).toInt (a).toInt from (by unfold thY; rw [← ka, ← kb, ← kc]; exact ⟨1, 1, Or.inr (Or.inr ⟨by omega, by omega, (by unfold m3R; omega), by decide⟩), Or.inl ⟨by decide, xr23_0, xr23_1⟩⟩)), rfl⟩, by rw [ht9]; exact hP9, hD9⟩, hS.F ht9⟩) hS.2.2 dX12_settleThree_259
        · have fc21 := zc_ngt ev20 (rfl : (w10).toInt = _) (rfl : (w15).toInt = _) c21
          refine lv_iconst (v := 1) hx hb dX12_settleThree_212 (by decide) ?_
          refine lv_goto (tgt := 217) hx hb dX12_settleThree_213 (by decide) ?_
          refine lv_icmp_ne (tgt := 224) hx hb dX12_settleThree_217 (by decide) (fun c26 => ?_) (fun c26 => ?_)
          · skip
            refine lv_lload hx hb dX12_settleThree_224 (lv_at hl 1 rfl) ?_
            refine lv_lload_n hx hb dX12_settleThree_226 rfl (lv_at hl 2 rfl) ?_
            refine W.lcmp hx hb dX12_settleThree_227 ?_
            refine lv_topi (fun v27 ev27 => ?_)
            refine lv_if_gt (tgt := 235) hx hb dX12_settleThree_228 (by decide) (fun c28 => ?_) (fun c28 => ?_)
            · have fc28 := zc_gt ev27 (rfl : (w10).toInt = _) (rfl : (w5).toInt = _) c28
              refine lv_iconst (v := 0) hx hb dX12_settleThree_235 (by decide) ?_
              refine lv_lload_n hx hb dX12_settleThree_236 rfl (lv_at hl 2 rfl) ?_
              refine lv_lload hx hb dX12_settleThree_237 (lv_at hl 0 rfl) ?_
              refine W.lcmp hx hb dX12_settleThree_239 ?_
              refine lv_topi (fun v29 ev29 => ?_)
              refine lv_if_gt (tgt := 247) hx hb dX12_settleThree_240 (by decide) (fun c30 => ?_) (fun c30 => ?_)
              · have fc30 := zc_gt ev29 (rfl : (w5).toInt = _) (rfl : (w15).toInt = _) c30
                refine lv_iconst (v := 0) hx hb dX12_settleThree_247 (by decide) ?_
                refine lv_icmp_ne (tgt := 255) hx hb dX12_settleThree_248 (by decide) (fun c31 => ?_) (fun c31 => ?_)
                · exact absurd rfl c31
                · skip
                  refine lv_iconst (v := 0) hx hb dX12_settleThree_251 (by decide) ?_
                  refine lv_goto (tgt := 256) hx hb dX12_settleThree_252 (by decide) ?_
                  have hFc := free_all hD hS hA
                  refine va_callv (va_runV (As := [.int 0]) (rest := []) ⟨hx, hb, hml, hown, ht⟩ (c_X12_only_w0 l dC dI s.heap.size h g ca iv lv fa la hI) (kV 1 ht m_1536 m_1538 m_59 m_89 m_1539 rfl rfl hd_X12_only_v ⟨Nat.le_of_ble_eq_true rfl, Nat.le_of_ble_eq_true rfl⟩) (vW hP hK hD (rM_12 hK hP)) rfl rfl hl.1 rfl (lv_room (Nat.le_of_ble_eq_true rfl)) dX12_settleThree_256 ⟨Nat.le_of_ble_eq_true rfl, Nat.le_of_ble_eq_true rfl⟩) hS (fun q _ h => hFc q h) hFc (fun u t H1 locs ht9 hvm hr32 hB hz1 hk1 hS => ?_)
                  obtain ⟨n33, n34, xr32_0, xr32_1, rfl⟩ := hr32
                  obtain ⟨hP, hD⟩ := hB
                  rw [ht9] at hP
                  generalize H1 = H at hP hS ⊢
                  have hP : va_P (dC, dI) classes (WM h g ca iv (u2 (u2 lv 12 44 n33) 12 45 n34) fa la) H := hP
                  have hD : va_D A (WM h g ca iv (u2 (u2 lv 12 44 n33) 12 45 n34) fa la) := (show va_D _ (WM h g ca iv (u2 (u2 lv 12 44 n33) 12 45 n34) fa la) from hD).weaken (fun _ _ _ h => hFc _ h)
                  have xr32_0 : (n33 : Int64).toInt = ((la 12 42) 0).toInt := xr32_0
                  have xr32_1 : (n34 : Int64).toInt = ((la 12 43) 0).toInt := xr32_1
                  have hP9 : va_P (dC, dI) classes (WM h g ca iv (u2 (u2 lv 12 44 n33) 12 45 n34) fa la) H := hP
                  have hD9 : va_D A (WM h g ca iv (u2 (u2 lv 12 44 n33) 12 45 n34) fa la) := hD
                  exact W.vret hx hb hr (fun t ht9 hW => ⟨⟨(iv, (u2 (u2 lv 12 44 n33) 12 45 n34), fa, la), rfl, ⟨n33, n34, (show thY (la 12 42) (la 12 43) (n33 : Int64).toInt (n34 : Int64).toInt (a).toInt from (by unfold thY; rw [← ka, ← kb, ← kc]; exact ⟨0, 0, Or.inr (Or.inr ⟨by omega, by omega, (by unfold m3R; omega), by decide⟩), Or.inl ⟨by decide, xr32_0, xr32_1⟩⟩)), rfl⟩, by rw [ht9]; exact hP9, hD9⟩, hS.F ht9⟩) hS.2.2 dX12_settleThree_259
              · have fc30 := zc_ngt ev29 (rfl : (w5).toInt = _) (rfl : (w15).toInt = _) c30
                refine lv_iconst (v := 1) hx hb dX12_settleThree_243 (by decide) ?_
                refine lv_goto (tgt := 248) hx hb dX12_settleThree_244 (by decide) ?_
                refine lv_icmp_ne (tgt := 255) hx hb dX12_settleThree_248 (by decide) (fun c35 => ?_) (fun c35 => ?_)
                · skip
                  refine lv_iconst (v := 2) hx hb dX12_settleThree_255 (by decide) ?_
                  have hFc := free_all hD hS hA
                  refine va_callv (va_runV (As := [.int 2]) (rest := []) ⟨hx, hb, hml, hown, ht⟩ (c_X12_only_w2 l dC dI s.heap.size h g ca iv lv fa la hI) (kV 1 ht m_1536 m_1538 m_59 m_89 m_1539 rfl rfl hd_X12_only_v ⟨Nat.le_of_ble_eq_true rfl, Nat.le_of_ble_eq_true rfl⟩) (vW hP hK hD (rM_12 hK hP)) rfl rfl hl.1 rfl (lv_room (Nat.le_of_ble_eq_true rfl)) dX12_settleThree_256 ⟨Nat.le_of_ble_eq_true rfl, Nat.le_of_ble_eq_true rfl⟩) hS (fun q _ h => hFc q h) hFc (fun u t H1 locs ht9 hvm hr36 hB hz1 hk1 hS => ?_)
                  obtain ⟨n37, n38, xr36_0, xr36_1, rfl⟩ := hr36
                  obtain ⟨hP, hD⟩ := hB
                  rw [ht9] at hP
                  generalize H1 = H at hP hS ⊢
                  have hP : va_P (dC, dI) classes (WM h g ca iv (u2 (u2 lv 12 44 n37) 12 45 n38) fa la) H := hP
                  have hD : va_D A (WM h g ca iv (u2 (u2 lv 12 44 n37) 12 45 n38) fa la) := (show va_D _ (WM h g ca iv (u2 (u2 lv 12 44 n37) 12 45 n38) fa la) from hD).weaken (fun _ _ _ h => hFc _ h)
                  have xr36_0 : (n37 : Int64).toInt = ((la 12 42) 2).toInt := xr36_0
                  have xr36_1 : (n38 : Int64).toInt = ((la 12 43) 2).toInt := xr36_1
                  have hP9 : va_P (dC, dI) classes (WM h g ca iv (u2 (u2 lv 12 44 n37) 12 45 n38) fa la) H := hP
                  have hD9 : va_D A (WM h g ca iv (u2 (u2 lv 12 44 n37) 12 45 n38) fa la) := hD
                  exact W.vret hx hb hr (fun t ht9 hW => ⟨⟨(iv, (u2 (u2 lv 12 44 n37) 12 45 n38), fa, la), rfl, ⟨n37, n38, (show thY (la 12 42) (la 12 43) (n37 : Int64).toInt (n38 : Int64).toInt (a).toInt from (by unfold thY; rw [← ka, ← kb, ← kc]; exact ⟨2, 2, Or.inr (Or.inr ⟨by omega, by omega, (by unfold m3R; omega), by decide⟩), Or.inl ⟨by decide, xr36_0, xr36_1⟩⟩)), rfl⟩, by rw [ht9]; exact hP9, hD9⟩, hS.F ht9⟩) hS.2.2 dX12_settleThree_259
                · exact absurd c35 (by decide)
            · have fc28 := zc_ngt ev27 (rfl : (w10).toInt = _) (rfl : (w5).toInt = _) c28
              refine lv_iconst (v := 1) hx hb dX12_settleThree_231 (by decide) ?_
              refine lv_goto (tgt := 236) hx hb dX12_settleThree_232 (by decide) ?_
              refine lv_lload_n hx hb dX12_settleThree_236 rfl (lv_at hl 2 rfl) ?_
              refine lv_lload hx hb dX12_settleThree_237 (lv_at hl 0 rfl) ?_
              refine W.lcmp hx hb dX12_settleThree_239 ?_
              refine lv_topi (fun v39 ev39 => ?_)
              refine lv_if_gt (tgt := 247) hx hb dX12_settleThree_240 (by decide) (fun c40 => ?_) (fun c40 => ?_)
              · have fc40 := zc_gt ev39 (rfl : (w5).toInt = _) (rfl : (w15).toInt = _) c40
                refine lv_iconst (v := 0) hx hb dX12_settleThree_247 (by decide) ?_
                refine lv_icmp_ne (tgt := 255) hx hb dX12_settleThree_248 (by decide) (fun c41 => ?_) (fun c41 => ?_)
                · skip
                  refine lv_iconst (v := 2) hx hb dX12_settleThree_255 (by decide) ?_
                  have hFc := free_all hD hS hA
                  refine va_callv (va_runV (As := [.int 2]) (rest := []) ⟨hx, hb, hml, hown, ht⟩ (c_X12_only_w2 l dC dI s.heap.size h g ca iv lv fa la hI) (kV 1 ht m_1536 m_1538 m_59 m_89 m_1539 rfl rfl hd_X12_only_v ⟨Nat.le_of_ble_eq_true rfl, Nat.le_of_ble_eq_true rfl⟩) (vW hP hK hD (rM_12 hK hP)) rfl rfl hl.1 rfl (lv_room (Nat.le_of_ble_eq_true rfl)) dX12_settleThree_256 ⟨Nat.le_of_ble_eq_true rfl, Nat.le_of_ble_eq_true rfl⟩) hS (fun q _ h => hFc q h) hFc (fun u t H1 locs ht9 hvm hr42 hB hz1 hk1 hS => ?_)
                  obtain ⟨n43, n44, xr42_0, xr42_1, rfl⟩ := hr42
                  obtain ⟨hP, hD⟩ := hB
                  rw [ht9] at hP
                  generalize H1 = H at hP hS ⊢
                  have hP : va_P (dC, dI) classes (WM h g ca iv (u2 (u2 lv 12 44 n43) 12 45 n44) fa la) H := hP
                  have hD : va_D A (WM h g ca iv (u2 (u2 lv 12 44 n43) 12 45 n44) fa la) := (show va_D _ (WM h g ca iv (u2 (u2 lv 12 44 n43) 12 45 n44) fa la) from hD).weaken (fun _ _ _ h => hFc _ h)
                  have xr42_0 : (n43 : Int64).toInt = ((la 12 42) 2).toInt := xr42_0
                  have xr42_1 : (n44 : Int64).toInt = ((la 12 43) 2).toInt := xr42_1
                  have hP9 : va_P (dC, dI) classes (WM h g ca iv (u2 (u2 lv 12 44 n43) 12 45 n44) fa la) H := hP
                  have hD9 : va_D A (WM h g ca iv (u2 (u2 lv 12 44 n43) 12 45 n44) fa la) := hD
                  exact W.vret hx hb hr (fun t ht9 hW => ⟨⟨(iv, (u2 (u2 lv 12 44 n43) 12 45 n44), fa, la), rfl, ⟨n43, n44, (show thY (la 12 42) (la 12 43) (n43 : Int64).toInt (n44 : Int64).toInt (a).toInt from (by unfold thY; rw [← ka, ← kb, ← kc]; exact ⟨2, 2, Or.inr (Or.inr ⟨by omega, by omega, (by unfold m3R; omega), by decide⟩), Or.inl ⟨by decide, xr42_0, xr42_1⟩⟩)), rfl⟩, by rw [ht9]; exact hP9, hD9⟩, hS.F ht9⟩) hS.2.2 dX12_settleThree_259
                · exact absurd c41 (by decide)
              · have fc40 := zc_ngt ev39 (rfl : (w5).toInt = _) (rfl : (w15).toInt = _) c40
                refine lv_iconst (v := 1) hx hb dX12_settleThree_243 (by decide) ?_
                refine lv_goto (tgt := 248) hx hb dX12_settleThree_244 (by decide) ?_
                refine lv_icmp_ne (tgt := 255) hx hb dX12_settleThree_248 (by decide) (fun c45 => ?_) (fun c45 => ?_)
                · exact absurd rfl c45
                · skip
                  refine lv_iconst (v := 0) hx hb dX12_settleThree_251 (by decide) ?_
                  refine lv_goto (tgt := 256) hx hb dX12_settleThree_252 (by decide) ?_
                  have hFc := free_all hD hS hA
                  refine va_callv (va_runV (As := [.int 0]) (rest := []) ⟨hx, hb, hml, hown, ht⟩ (c_X12_only_w0 l dC dI s.heap.size h g ca iv lv fa la hI) (kV 1 ht m_1536 m_1538 m_59 m_89 m_1539 rfl rfl hd_X12_only_v ⟨Nat.le_of_ble_eq_true rfl, Nat.le_of_ble_eq_true rfl⟩) (vW hP hK hD (rM_12 hK hP)) rfl rfl hl.1 rfl (lv_room (Nat.le_of_ble_eq_true rfl)) dX12_settleThree_256 ⟨Nat.le_of_ble_eq_true rfl, Nat.le_of_ble_eq_true rfl⟩) hS (fun q _ h => hFc q h) hFc (fun u t H1 locs ht9 hvm hr46 hB hz1 hk1 hS => ?_)
                  obtain ⟨n47, n48, xr46_0, xr46_1, rfl⟩ := hr46
                  obtain ⟨hP, hD⟩ := hB
                  rw [ht9] at hP
                  generalize H1 = H at hP hS ⊢
                  have hP : va_P (dC, dI) classes (WM h g ca iv (u2 (u2 lv 12 44 n47) 12 45 n48) fa la) H := hP
                  have hD : va_D A (WM h g ca iv (u2 (u2 lv 12 44 n47) 12 45 n48) fa la) := (show va_D _ (WM h g ca iv (u2 (u2 lv 12 44 n47) 12 45 n48) fa la) from hD).weaken (fun _ _ _ h => hFc _ h)
                  have xr46_0 : (n47 : Int64).toInt = ((la 12 42) 0).toInt := xr46_0
                  have xr46_1 : (n48 : Int64).toInt = ((la 12 43) 0).toInt := xr46_1
                  have hP9 : va_P (dC, dI) classes (WM h g ca iv (u2 (u2 lv 12 44 n47) 12 45 n48) fa la) H := hP
                  have hD9 : va_D A (WM h g ca iv (u2 (u2 lv 12 44 n47) 12 45 n48) fa la) := hD
                  exact W.vret hx hb hr (fun t ht9 hW => ⟨⟨(iv, (u2 (u2 lv 12 44 n47) 12 45 n48), fa, la), rfl, ⟨n47, n48, (show thY (la 12 42) (la 12 43) (n47 : Int64).toInt (n48 : Int64).toInt (a).toInt from (by unfold thY; rw [← ka, ← kb, ← kc]; exact ⟨0, 0, Or.inr (Or.inr ⟨by omega, by omega, (by unfold m3R; omega), by decide⟩), Or.inl ⟨by decide, xr46_0, xr46_1⟩⟩)), rfl⟩, by rw [ht9]; exact hP9, hD9⟩, hS.F ht9⟩) hS.2.2 dX12_settleThree_259
          · exact absurd c26 (by decide)
      · have fc19 := zc_ngt ev18 (rfl : (w5).toInt = _) (rfl : (w10).toInt = _) c19
        refine lv_iconst (v := 1) hx hb dX12_settleThree_199 (by decide) ?_
        refine lv_goto (tgt := 204) hx hb dX12_settleThree_200 (by decide) ?_
        refine lv_lload hx hb dX12_settleThree_204 (lv_at hl 1 rfl) ?_
        refine lv_lload hx hb dX12_settleThree_206 (lv_at hl 0 rfl) ?_
        refine W.lcmp hx hb dX12_settleThree_208 ?_
        refine lv_topi (fun v49 ev49 => ?_)
        refine lv_if_gt (tgt := 216) hx hb dX12_settleThree_209 (by decide) (fun c50 => ?_) (fun c50 => ?_)
        · have fc50 := zc_gt ev49 (rfl : (w10).toInt = _) (rfl : (w15).toInt = _) c50
          refine lv_iconst (v := 0) hx hb dX12_settleThree_216 (by decide) ?_
          refine lv_icmp_ne (tgt := 224) hx hb dX12_settleThree_217 (by decide) (fun c51 => ?_) (fun c51 => ?_)
          · skip
            refine lv_lload hx hb dX12_settleThree_224 (lv_at hl 1 rfl) ?_
            refine lv_lload_n hx hb dX12_settleThree_226 rfl (lv_at hl 2 rfl) ?_
            refine W.lcmp hx hb dX12_settleThree_227 ?_
            refine lv_topi (fun v52 ev52 => ?_)
            refine lv_if_gt (tgt := 235) hx hb dX12_settleThree_228 (by decide) (fun c53 => ?_) (fun c53 => ?_)
            · have fc53 := zc_gt ev52 (rfl : (w10).toInt = _) (rfl : (w5).toInt = _) c53
              refine lv_iconst (v := 0) hx hb dX12_settleThree_235 (by decide) ?_
              refine lv_lload_n hx hb dX12_settleThree_236 rfl (lv_at hl 2 rfl) ?_
              refine lv_lload hx hb dX12_settleThree_237 (lv_at hl 0 rfl) ?_
              refine W.lcmp hx hb dX12_settleThree_239 ?_
              refine lv_topi (fun v54 ev54 => ?_)
              refine lv_if_gt (tgt := 247) hx hb dX12_settleThree_240 (by decide) (fun c55 => ?_) (fun c55 => ?_)
              · have fc55 := zc_gt ev54 (rfl : (w5).toInt = _) (rfl : (w15).toInt = _) c55
                refine lv_iconst (v := 0) hx hb dX12_settleThree_247 (by decide) ?_
                refine lv_icmp_ne (tgt := 255) hx hb dX12_settleThree_248 (by decide) (fun c56 => ?_) (fun c56 => ?_)
                · exact absurd rfl c56
                · skip
                  refine lv_iconst (v := 0) hx hb dX12_settleThree_251 (by decide) ?_
                  refine lv_goto (tgt := 256) hx hb dX12_settleThree_252 (by decide) ?_
                  have hFc := free_all hD hS hA
                  refine va_callv (va_runV (As := [.int 0]) (rest := []) ⟨hx, hb, hml, hown, ht⟩ (c_X12_only_w0 l dC dI s.heap.size h g ca iv lv fa la hI) (kV 1 ht m_1536 m_1538 m_59 m_89 m_1539 rfl rfl hd_X12_only_v ⟨Nat.le_of_ble_eq_true rfl, Nat.le_of_ble_eq_true rfl⟩) (vW hP hK hD (rM_12 hK hP)) rfl rfl hl.1 rfl (lv_room (Nat.le_of_ble_eq_true rfl)) dX12_settleThree_256 ⟨Nat.le_of_ble_eq_true rfl, Nat.le_of_ble_eq_true rfl⟩) hS (fun q _ h => hFc q h) hFc (fun u t H1 locs ht9 hvm hr57 hB hz1 hk1 hS => ?_)
                  obtain ⟨n58, n59, xr57_0, xr57_1, rfl⟩ := hr57
                  obtain ⟨hP, hD⟩ := hB
                  rw [ht9] at hP
                  generalize H1 = H at hP hS ⊢
                  have hP : va_P (dC, dI) classes (WM h g ca iv (u2 (u2 lv 12 44 n58) 12 45 n59) fa la) H := hP
                  have hD : va_D A (WM h g ca iv (u2 (u2 lv 12 44 n58) 12 45 n59) fa la) := (show va_D _ (WM h g ca iv (u2 (u2 lv 12 44 n58) 12 45 n59) fa la) from hD).weaken (fun _ _ _ h => hFc _ h)
                  have xr57_0 : (n58 : Int64).toInt = ((la 12 42) 0).toInt := xr57_0
                  have xr57_1 : (n59 : Int64).toInt = ((la 12 43) 0).toInt := xr57_1
                  have hP9 : va_P (dC, dI) classes (WM h g ca iv (u2 (u2 lv 12 44 n58) 12 45 n59) fa la) H := hP
                  have hD9 : va_D A (WM h g ca iv (u2 (u2 lv 12 44 n58) 12 45 n59) fa la) := hD
                  exact W.vret hx hb hr (fun t ht9 hW => ⟨⟨(iv, (u2 (u2 lv 12 44 n58) 12 45 n59), fa, la), rfl, ⟨n58, n59, (show thY (la 12 42) (la 12 43) (n58 : Int64).toInt (n59 : Int64).toInt (a).toInt from (by unfold thY; rw [← ka, ← kb, ← kc]; exact ⟨0, 0, Or.inr (Or.inr ⟨by omega, by omega, (by unfold m3R; omega), by decide⟩), Or.inl ⟨by decide, xr57_0, xr57_1⟩⟩)), rfl⟩, by rw [ht9]; exact hP9, hD9⟩, hS.F ht9⟩) hS.2.2 dX12_settleThree_259
              · have fc55 := zc_ngt ev54 (rfl : (w5).toInt = _) (rfl : (w15).toInt = _) c55
                refine lv_iconst (v := 1) hx hb dX12_settleThree_243 (by decide) ?_
                refine lv_goto (tgt := 248) hx hb dX12_settleThree_244 (by decide) ?_
                refine lv_icmp_ne (tgt := 255) hx hb dX12_settleThree_248 (by decide) (fun c60 => ?_) (fun c60 => ?_)
                · skip
                  refine lv_iconst (v := 2) hx hb dX12_settleThree_255 (by decide) ?_
                  have hFc := free_all hD hS hA
                  refine va_callv (va_runV (As := [.int 2]) (rest := []) ⟨hx, hb, hml, hown, ht⟩ (c_X12_only_w2 l dC dI s.heap.size h g ca iv lv fa la hI) (kV 1 ht m_1536 m_1538 m_59 m_89 m_1539 rfl rfl hd_X12_only_v ⟨Nat.le_of_ble_eq_true rfl, Nat.le_of_ble_eq_true rfl⟩) (vW hP hK hD (rM_12 hK hP)) rfl rfl hl.1 rfl (lv_room (Nat.le_of_ble_eq_true rfl)) dX12_settleThree_256 ⟨Nat.le_of_ble_eq_true rfl, Nat.le_of_ble_eq_true rfl⟩) hS (fun q _ h => hFc q h) hFc (fun u t H1 locs ht9 hvm hr61 hB hz1 hk1 hS => ?_)
                  obtain ⟨n62, n63, xr61_0, xr61_1, rfl⟩ := hr61
                  obtain ⟨hP, hD⟩ := hB
                  rw [ht9] at hP
                  generalize H1 = H at hP hS ⊢
                  have hP : va_P (dC, dI) classes (WM h g ca iv (u2 (u2 lv 12 44 n62) 12 45 n63) fa la) H := hP
                  have hD : va_D A (WM h g ca iv (u2 (u2 lv 12 44 n62) 12 45 n63) fa la) := (show va_D _ (WM h g ca iv (u2 (u2 lv 12 44 n62) 12 45 n63) fa la) from hD).weaken (fun _ _ _ h => hFc _ h)
                  have xr61_0 : (n62 : Int64).toInt = ((la 12 42) 2).toInt := xr61_0
                  have xr61_1 : (n63 : Int64).toInt = ((la 12 43) 2).toInt := xr61_1
                  have hP9 : va_P (dC, dI) classes (WM h g ca iv (u2 (u2 lv 12 44 n62) 12 45 n63) fa la) H := hP
                  have hD9 : va_D A (WM h g ca iv (u2 (u2 lv 12 44 n62) 12 45 n63) fa la) := hD
                  exact W.vret hx hb hr (fun t ht9 hW => ⟨⟨(iv, (u2 (u2 lv 12 44 n62) 12 45 n63), fa, la), rfl, ⟨n62, n63, (show thY (la 12 42) (la 12 43) (n62 : Int64).toInt (n63 : Int64).toInt (a).toInt from (by unfold thY; rw [← ka, ← kb, ← kc]; exact ⟨2, 2, Or.inr (Or.inr ⟨by omega, by omega, (by unfold m3R; omega), by decide⟩), Or.inl ⟨by decide, xr61_0, xr61_1⟩⟩)), rfl⟩, by rw [ht9]; exact hP9, hD9⟩, hS.F ht9⟩) hS.2.2 dX12_settleThree_259
                · exact absurd c60 (by decide)
            · have fc53 := zc_ngt ev52 (rfl : (w10).toInt = _) (rfl : (w5).toInt = _) c53
              refine lv_iconst (v := 1) hx hb dX12_settleThree_231 (by decide) ?_
              refine lv_goto (tgt := 236) hx hb dX12_settleThree_232 (by decide) ?_
              refine lv_lload_n hx hb dX12_settleThree_236 rfl (lv_at hl 2 rfl) ?_
              refine lv_lload hx hb dX12_settleThree_237 (lv_at hl 0 rfl) ?_
              refine W.lcmp hx hb dX12_settleThree_239 ?_
              refine lv_topi (fun v64 ev64 => ?_)
              refine lv_if_gt (tgt := 247) hx hb dX12_settleThree_240 (by decide) (fun c65 => ?_) (fun c65 => ?_)
              · have fc65 := zc_gt ev64 (rfl : (w5).toInt = _) (rfl : (w15).toInt = _) c65
                refine lv_iconst (v := 0) hx hb dX12_settleThree_247 (by decide) ?_
                refine lv_icmp_ne (tgt := 255) hx hb dX12_settleThree_248 (by decide) (fun c66 => ?_) (fun c66 => ?_)
                · skip
                  refine lv_iconst (v := 2) hx hb dX12_settleThree_255 (by decide) ?_
                  have hFc := free_all hD hS hA
                  refine va_callv (va_runV (As := [.int 2]) (rest := []) ⟨hx, hb, hml, hown, ht⟩ (c_X12_only_w2 l dC dI s.heap.size h g ca iv lv fa la hI) (kV 1 ht m_1536 m_1538 m_59 m_89 m_1539 rfl rfl hd_X12_only_v ⟨Nat.le_of_ble_eq_true rfl, Nat.le_of_ble_eq_true rfl⟩) (vW hP hK hD (rM_12 hK hP)) rfl rfl hl.1 rfl (lv_room (Nat.le_of_ble_eq_true rfl)) dX12_settleThree_256 ⟨Nat.le_of_ble_eq_true rfl, Nat.le_of_ble_eq_true rfl⟩) hS (fun q _ h => hFc q h) hFc (fun u t H1 locs ht9 hvm hr67 hB hz1 hk1 hS => ?_)
                  obtain ⟨n68, n69, xr67_0, xr67_1, rfl⟩ := hr67
                  obtain ⟨hP, hD⟩ := hB
                  rw [ht9] at hP
                  generalize H1 = H at hP hS ⊢
                  have hP : va_P (dC, dI) classes (WM h g ca iv (u2 (u2 lv 12 44 n68) 12 45 n69) fa la) H := hP
                  have hD : va_D A (WM h g ca iv (u2 (u2 lv 12 44 n68) 12 45 n69) fa la) := (show va_D _ (WM h g ca iv (u2 (u2 lv 12 44 n68) 12 45 n69) fa la) from hD).weaken (fun _ _ _ h => hFc _ h)
                  have xr67_0 : (n68 : Int64).toInt = ((la 12 42) 2).toInt := xr67_0
                  have xr67_1 : (n69 : Int64).toInt = ((la 12 43) 2).toInt := xr67_1
                  have hP9 : va_P (dC, dI) classes (WM h g ca iv (u2 (u2 lv 12 44 n68) 12 45 n69) fa la) H := hP
                  have hD9 : va_D A (WM h g ca iv (u2 (u2 lv 12 44 n68) 12 45 n69) fa la) := hD
                  exact W.vret hx hb hr (fun t ht9 hW => ⟨⟨(iv, (u2 (u2 lv 12 44 n68) 12 45 n69), fa, la), rfl, ⟨n68, n69, (show thY (la 12 42) (la 12 43) (n68 : Int64).toInt (n69 : Int64).toInt (a).toInt from (by unfold thY; rw [← ka, ← kb, ← kc]; exact ⟨2, 2, Or.inr (Or.inr ⟨by omega, by omega, (by unfold m3R; omega), by decide⟩), Or.inl ⟨by decide, xr67_0, xr67_1⟩⟩)), rfl⟩, by rw [ht9]; exact hP9, hD9⟩, hS.F ht9⟩) hS.2.2 dX12_settleThree_259
                · exact absurd c66 (by decide)
              · have fc65 := zc_ngt ev64 (rfl : (w5).toInt = _) (rfl : (w15).toInt = _) c65
                refine lv_iconst (v := 1) hx hb dX12_settleThree_243 (by decide) ?_
                refine lv_goto (tgt := 248) hx hb dX12_settleThree_244 (by decide) ?_
                refine lv_icmp_ne (tgt := 255) hx hb dX12_settleThree_248 (by decide) (fun c70 => ?_) (fun c70 => ?_)
                · exact absurd rfl c70
                · skip
                  refine lv_iconst (v := 0) hx hb dX12_settleThree_251 (by decide) ?_
                  refine lv_goto (tgt := 256) hx hb dX12_settleThree_252 (by decide) ?_
                  have hFc := free_all hD hS hA
                  refine va_callv (va_runV (As := [.int 0]) (rest := []) ⟨hx, hb, hml, hown, ht⟩ (c_X12_only_w0 l dC dI s.heap.size h g ca iv lv fa la hI) (kV 1 ht m_1536 m_1538 m_59 m_89 m_1539 rfl rfl hd_X12_only_v ⟨Nat.le_of_ble_eq_true rfl, Nat.le_of_ble_eq_true rfl⟩) (vW hP hK hD (rM_12 hK hP)) rfl rfl hl.1 rfl (lv_room (Nat.le_of_ble_eq_true rfl)) dX12_settleThree_256 ⟨Nat.le_of_ble_eq_true rfl, Nat.le_of_ble_eq_true rfl⟩) hS (fun q _ h => hFc q h) hFc (fun u t H1 locs ht9 hvm hr71 hB hz1 hk1 hS => ?_)
                  obtain ⟨n72, n73, xr71_0, xr71_1, rfl⟩ := hr71
                  obtain ⟨hP, hD⟩ := hB
                  rw [ht9] at hP
                  generalize H1 = H at hP hS ⊢
                  have hP : va_P (dC, dI) classes (WM h g ca iv (u2 (u2 lv 12 44 n72) 12 45 n73) fa la) H := hP
                  have hD : va_D A (WM h g ca iv (u2 (u2 lv 12 44 n72) 12 45 n73) fa la) := (show va_D _ (WM h g ca iv (u2 (u2 lv 12 44 n72) 12 45 n73) fa la) from hD).weaken (fun _ _ _ h => hFc _ h)
                  have xr71_0 : (n72 : Int64).toInt = ((la 12 42) 0).toInt := xr71_0
                  have xr71_1 : (n73 : Int64).toInt = ((la 12 43) 0).toInt := xr71_1
                  have hP9 : va_P (dC, dI) classes (WM h g ca iv (u2 (u2 lv 12 44 n72) 12 45 n73) fa la) H := hP
                  have hD9 : va_D A (WM h g ca iv (u2 (u2 lv 12 44 n72) 12 45 n73) fa la) := hD
                  exact W.vret hx hb hr (fun t ht9 hW => ⟨⟨(iv, (u2 (u2 lv 12 44 n72) 12 45 n73), fa, la), rfl, ⟨n72, n73, (show thY (la 12 42) (la 12 43) (n72 : Int64).toInt (n73 : Int64).toInt (a).toInt from (by unfold thY; rw [← ka, ← kb, ← kc]; exact ⟨0, 0, Or.inr (Or.inr ⟨by omega, by omega, (by unfold m3R; omega), by decide⟩), Or.inl ⟨by decide, xr71_0, xr71_1⟩⟩)), rfl⟩, by rw [ht9]; exact hP9, hD9⟩, hS.F ht9⟩) hS.2.2 dX12_settleThree_259
          · exact absurd c51 (by decide)
        · have fc50 := zc_ngt ev49 (rfl : (w10).toInt = _) (rfl : (w15).toInt = _) c50
          refine lv_iconst (v := 1) hx hb dX12_settleThree_212 (by decide) ?_
          refine lv_goto (tgt := 217) hx hb dX12_settleThree_213 (by decide) ?_
          refine lv_icmp_ne (tgt := 224) hx hb dX12_settleThree_217 (by decide) (fun c74 => ?_) (fun c74 => ?_)
          · exact absurd rfl c74
          · skip
            refine lv_iconst (v := 1) hx hb dX12_settleThree_220 (by decide) ?_
            refine lv_goto (tgt := 256) hx hb dX12_settleThree_221 (by decide) ?_
            have hFc := free_all hD hS hA
            refine va_callv (va_runV (As := [.int 1]) (rest := []) ⟨hx, hb, hml, hown, ht⟩ (c_X12_only_w1 l dC dI s.heap.size h g ca iv lv fa la hI) (kV 1 ht m_1536 m_1538 m_59 m_89 m_1539 rfl rfl hd_X12_only_v ⟨Nat.le_of_ble_eq_true rfl, Nat.le_of_ble_eq_true rfl⟩) (vW hP hK hD (rM_12 hK hP)) rfl rfl hl.1 rfl (lv_room (Nat.le_of_ble_eq_true rfl)) dX12_settleThree_256 ⟨Nat.le_of_ble_eq_true rfl, Nat.le_of_ble_eq_true rfl⟩) hS (fun q _ h => hFc q h) hFc (fun u t H1 locs ht9 hvm hr75 hB hz1 hk1 hS => ?_)
            obtain ⟨n76, n77, xr75_0, xr75_1, rfl⟩ := hr75
            obtain ⟨hP, hD⟩ := hB
            rw [ht9] at hP
            generalize H1 = H at hP hS ⊢
            have hP : va_P (dC, dI) classes (WM h g ca iv (u2 (u2 lv 12 44 n76) 12 45 n77) fa la) H := hP
            have hD : va_D A (WM h g ca iv (u2 (u2 lv 12 44 n76) 12 45 n77) fa la) := (show va_D _ (WM h g ca iv (u2 (u2 lv 12 44 n76) 12 45 n77) fa la) from hD).weaken (fun _ _ _ h => hFc _ h)
            have xr75_0 : (n76 : Int64).toInt = ((la 12 42) 1).toInt := xr75_0
            have xr75_1 : (n77 : Int64).toInt = ((la 12 43) 1).toInt := xr75_1
            have hP9 : va_P (dC, dI) classes (WM h g ca iv (u2 (u2 lv 12 44 n76) 12 45 n77) fa la) H := hP
            have hD9 : va_D A (WM h g ca iv (u2 (u2 lv 12 44 n76) 12 45 n77) fa la) := hD
            exact W.vret hx hb hr (fun t ht9 hW => ⟨⟨(iv, (u2 (u2 lv 12 44 n76) 12 45 n77), fa, la), rfl, ⟨n76, n77, (show thY (la 12 42) (la 12 43) (n76 : Int64).toInt (n77 : Int64).toInt (a).toInt from (by unfold thY; rw [← ka, ← kb, ← kc]; exact ⟨1, 1, Or.inr (Or.inr ⟨by omega, by omega, (by unfold m3R; omega), by decide⟩), Or.inl ⟨by decide, xr75_0, xr75_1⟩⟩)), rfl⟩, by rw [ht9]; exact hP9, hD9⟩, hS.F ht9⟩) hS.2.2 dX12_settleThree_259
    · have fc17 := z_eq (rfl : (a).toInt = _) (by decide : (1 : Int32).toInt = 1) c17
      refine lv_aload_n hx hb dX12_settleThree_153 rfl (lv_at hl 3 rfl) ?_
      refine lv_lload_n hx hb dX12_settleThree_154 rfl (lv_at hl 2 rfl) ?_
      refine lv_lload hx hb dX12_settleThree_155 (lv_at hl 1 rfl) ?_
      refine W.lcmp hx hb dX12_settleThree_157 ?_
      refine lv_topi (fun v78 ev78 => ?_)
      refine lv_if_gt (tgt := 172) hx hb dX12_settleThree_158 (by decide) (fun c79 => ?_) (fun c79 => ?_)
      · have fc79 := zc_gt ev78 (rfl : (w5).toInt = _) (rfl : (w10).toInt = _) c79
        refine lv_lload hx hb dX12_settleThree_172 (lv_at hl 1 rfl) ?_
        refine lv_lload hx hb dX12_settleThree_174 (lv_at hl 0 rfl) ?_
        refine W.lcmp hx hb dX12_settleThree_176 ?_
        refine lv_topi (fun v80 ev80 => ?_)
        refine lv_if_gt (tgt := 184) hx hb dX12_settleThree_177 (by decide) (fun c81 => ?_) (fun c81 => ?_)
        · have fc81 := zc_gt ev80 (rfl : (w10).toInt = _) (rfl : (w15).toInt = _) c81
          refine lv_iconst (v := 2) hx hb dX12_settleThree_184 (by decide) ?_
          have hFc := free_all hD hS hA
          refine va_callv (va_runV (As := [.int 2]) (rest := []) ⟨hx, hb, hml, hown, ht⟩ (c_X12_only_w2 l dC dI s.heap.size h g ca iv lv fa la hI) (kV 1 ht m_1536 m_1538 m_59 m_89 m_1539 rfl rfl hd_X12_only_v ⟨Nat.le_of_ble_eq_true rfl, Nat.le_of_ble_eq_true rfl⟩) (vW hP hK hD (rM_12 hK hP)) rfl rfl hl.1 rfl (lv_room (Nat.le_of_ble_eq_true rfl)) dX12_settleThree_185 ⟨Nat.le_of_ble_eq_true rfl, Nat.le_of_ble_eq_true rfl⟩) hS (fun q _ h => hFc q h) hFc (fun u t H1 locs ht9 hvm hr82 hB hz1 hk1 hS => ?_)
          obtain ⟨n83, n84, xr82_0, xr82_1, rfl⟩ := hr82
          obtain ⟨hP, hD⟩ := hB
          rw [ht9] at hP
          generalize H1 = H at hP hS ⊢
          have hP : va_P (dC, dI) classes (WM h g ca iv (u2 (u2 lv 12 44 n83) 12 45 n84) fa la) H := hP
          have hD : va_D A (WM h g ca iv (u2 (u2 lv 12 44 n83) 12 45 n84) fa la) := (show va_D _ (WM h g ca iv (u2 (u2 lv 12 44 n83) 12 45 n84) fa la) from hD).weaken (fun _ _ _ h => hFc _ h)
          have xr82_0 : (n83 : Int64).toInt = ((la 12 42) 2).toInt := xr82_0
          have xr82_1 : (n84 : Int64).toInt = ((la 12 43) 2).toInt := xr82_1
          refine lv_goto (tgt := 259) hx hb dX12_settleThree_188 (by decide) ?_
          have hP9 : va_P (dC, dI) classes (WM h g ca iv (u2 (u2 lv 12 44 n83) 12 45 n84) fa la) H := hP
          have hD9 : va_D A (WM h g ca iv (u2 (u2 lv 12 44 n83) 12 45 n84) fa la) := hD
          exact W.vret hx hb hr (fun t ht9 hW => ⟨⟨(iv, (u2 (u2 lv 12 44 n83) 12 45 n84), fa, la), rfl, ⟨n83, n84, (show thY (la 12 42) (la 12 43) (n83 : Int64).toInt (n84 : Int64).toInt (a).toInt from (by unfold thY; rw [← ka, ← kb, ← kc]; exact ⟨2, 2, Or.inr (Or.inl ⟨by omega, (by unfold l3R; omega), by decide⟩), Or.inl ⟨by decide, xr82_0, xr82_1⟩⟩)), rfl⟩, by rw [ht9]; exact hP9, hD9⟩, hS.F ht9⟩) hS.2.2 dX12_settleThree_259
        · have fc81 := zc_ngt ev80 (rfl : (w10).toInt = _) (rfl : (w15).toInt = _) c81
          refine lv_iconst (v := 1) hx hb dX12_settleThree_180 (by decide) ?_
          refine lv_goto (tgt := 185) hx hb dX12_settleThree_181 (by decide) ?_
          have hFc := free_all hD hS hA
          refine va_callv (va_runV (As := [.int 1]) (rest := []) ⟨hx, hb, hml, hown, ht⟩ (c_X12_only_w1 l dC dI s.heap.size h g ca iv lv fa la hI) (kV 1 ht m_1536 m_1538 m_59 m_89 m_1539 rfl rfl hd_X12_only_v ⟨Nat.le_of_ble_eq_true rfl, Nat.le_of_ble_eq_true rfl⟩) (vW hP hK hD (rM_12 hK hP)) rfl rfl hl.1 rfl (lv_room (Nat.le_of_ble_eq_true rfl)) dX12_settleThree_185 ⟨Nat.le_of_ble_eq_true rfl, Nat.le_of_ble_eq_true rfl⟩) hS (fun q _ h => hFc q h) hFc (fun u t H1 locs ht9 hvm hr85 hB hz1 hk1 hS => ?_)
          obtain ⟨n86, n87, xr85_0, xr85_1, rfl⟩ := hr85
          obtain ⟨hP, hD⟩ := hB
          rw [ht9] at hP
          generalize H1 = H at hP hS ⊢
          have hP : va_P (dC, dI) classes (WM h g ca iv (u2 (u2 lv 12 44 n86) 12 45 n87) fa la) H := hP
          have hD : va_D A (WM h g ca iv (u2 (u2 lv 12 44 n86) 12 45 n87) fa la) := (show va_D _ (WM h g ca iv (u2 (u2 lv 12 44 n86) 12 45 n87) fa la) from hD).weaken (fun _ _ _ h => hFc _ h)
          have xr85_0 : (n86 : Int64).toInt = ((la 12 42) 1).toInt := xr85_0
          have xr85_1 : (n87 : Int64).toInt = ((la 12 43) 1).toInt := xr85_1
          refine lv_goto (tgt := 259) hx hb dX12_settleThree_188 (by decide) ?_
          have hP9 : va_P (dC, dI) classes (WM h g ca iv (u2 (u2 lv 12 44 n86) 12 45 n87) fa la) H := hP
          have hD9 : va_D A (WM h g ca iv (u2 (u2 lv 12 44 n86) 12 45 n87) fa la) := hD
          exact W.vret hx hb hr (fun t ht9 hW => ⟨⟨(iv, (u2 (u2 lv 12 44 n86) 12 45 n87), fa, la), rfl, ⟨n86, n87, (show thY (la 12 42) (la 12 43) (n86 : Int64).toInt (n87 : Int64).toInt (a).toInt from (by unfold thY; rw [← ka, ← kb, ← kc]; exact ⟨1, 1, Or.inr (Or.inl ⟨by omega, (by unfold l3R; omega), by decide⟩), Or.inl ⟨by decide, xr85_0, xr85_1⟩⟩)), rfl⟩, by rw [ht9]; exact hP9, hD9⟩, hS.F ht9⟩) hS.2.2 dX12_settleThree_259
      · have fc79 := zc_ngt ev78 (rfl : (w5).toInt = _) (rfl : (w10).toInt = _) c79
        refine lv_lload_n hx hb dX12_settleThree_161 rfl (lv_at hl 2 rfl) ?_
        refine lv_lload hx hb dX12_settleThree_162 (lv_at hl 0 rfl) ?_
        refine W.lcmp hx hb dX12_settleThree_164 ?_
        refine lv_topi (fun v88 ev88 => ?_)
        refine lv_if_gt (tgt := 172) hx hb dX12_settleThree_165 (by decide) (fun c89 => ?_) (fun c89 => ?_)
        · have fc89 := zc_gt ev88 (rfl : (w5).toInt = _) (rfl : (w15).toInt = _) c89
          refine lv_lload hx hb dX12_settleThree_172 (lv_at hl 1 rfl) ?_
          refine lv_lload hx hb dX12_settleThree_174 (lv_at hl 0 rfl) ?_
          refine W.lcmp hx hb dX12_settleThree_176 ?_
          refine lv_topi (fun v90 ev90 => ?_)
          refine lv_if_gt (tgt := 184) hx hb dX12_settleThree_177 (by decide) (fun c91 => ?_) (fun c91 => ?_)
          · have fc91 := zc_gt ev90 (rfl : (w10).toInt = _) (rfl : (w15).toInt = _) c91
            refine lv_iconst (v := 2) hx hb dX12_settleThree_184 (by decide) ?_
            have hFc := free_all hD hS hA
            refine va_callv (va_runV (As := [.int 2]) (rest := []) ⟨hx, hb, hml, hown, ht⟩ (c_X12_only_w2 l dC dI s.heap.size h g ca iv lv fa la hI) (kV 1 ht m_1536 m_1538 m_59 m_89 m_1539 rfl rfl hd_X12_only_v ⟨Nat.le_of_ble_eq_true rfl, Nat.le_of_ble_eq_true rfl⟩) (vW hP hK hD (rM_12 hK hP)) rfl rfl hl.1 rfl (lv_room (Nat.le_of_ble_eq_true rfl)) dX12_settleThree_185 ⟨Nat.le_of_ble_eq_true rfl, Nat.le_of_ble_eq_true rfl⟩) hS (fun q _ h => hFc q h) hFc (fun u t H1 locs ht9 hvm hr92 hB hz1 hk1 hS => ?_)
            obtain ⟨n93, n94, xr92_0, xr92_1, rfl⟩ := hr92
            obtain ⟨hP, hD⟩ := hB
            rw [ht9] at hP
            generalize H1 = H at hP hS ⊢
            have hP : va_P (dC, dI) classes (WM h g ca iv (u2 (u2 lv 12 44 n93) 12 45 n94) fa la) H := hP
            have hD : va_D A (WM h g ca iv (u2 (u2 lv 12 44 n93) 12 45 n94) fa la) := (show va_D _ (WM h g ca iv (u2 (u2 lv 12 44 n93) 12 45 n94) fa la) from hD).weaken (fun _ _ _ h => hFc _ h)
            have xr92_0 : (n93 : Int64).toInt = ((la 12 42) 2).toInt := xr92_0
            have xr92_1 : (n94 : Int64).toInt = ((la 12 43) 2).toInt := xr92_1
            refine lv_goto (tgt := 259) hx hb dX12_settleThree_188 (by decide) ?_
            have hP9 : va_P (dC, dI) classes (WM h g ca iv (u2 (u2 lv 12 44 n93) 12 45 n94) fa la) H := hP
            have hD9 : va_D A (WM h g ca iv (u2 (u2 lv 12 44 n93) 12 45 n94) fa la) := hD
            exact W.vret hx hb hr (fun t ht9 hW => ⟨⟨(iv, (u2 (u2 lv 12 44 n93) 12 45 n94), fa, la), rfl, ⟨n93, n94, (show thY (la 12 42) (la 12 43) (n93 : Int64).toInt (n94 : Int64).toInt (a).toInt from (by unfold thY; rw [← ka, ← kb, ← kc]; exact ⟨2, 2, Or.inr (Or.inl ⟨by omega, (by unfold l3R; omega), by decide⟩), Or.inl ⟨by decide, xr92_0, xr92_1⟩⟩)), rfl⟩, by rw [ht9]; exact hP9, hD9⟩, hS.F ht9⟩) hS.2.2 dX12_settleThree_259
          · have fc91 := zc_ngt ev90 (rfl : (w10).toInt = _) (rfl : (w15).toInt = _) c91
            refine lv_iconst (v := 1) hx hb dX12_settleThree_180 (by decide) ?_
            refine lv_goto (tgt := 185) hx hb dX12_settleThree_181 (by decide) ?_
            have hFc := free_all hD hS hA
            refine va_callv (va_runV (As := [.int 1]) (rest := []) ⟨hx, hb, hml, hown, ht⟩ (c_X12_only_w1 l dC dI s.heap.size h g ca iv lv fa la hI) (kV 1 ht m_1536 m_1538 m_59 m_89 m_1539 rfl rfl hd_X12_only_v ⟨Nat.le_of_ble_eq_true rfl, Nat.le_of_ble_eq_true rfl⟩) (vW hP hK hD (rM_12 hK hP)) rfl rfl hl.1 rfl (lv_room (Nat.le_of_ble_eq_true rfl)) dX12_settleThree_185 ⟨Nat.le_of_ble_eq_true rfl, Nat.le_of_ble_eq_true rfl⟩) hS (fun q _ h => hFc q h) hFc (fun u t H1 locs ht9 hvm hr95 hB hz1 hk1 hS => ?_)
            obtain ⟨n96, n97, xr95_0, xr95_1, rfl⟩ := hr95
            obtain ⟨hP, hD⟩ := hB
            rw [ht9] at hP
            generalize H1 = H at hP hS ⊢
            have hP : va_P (dC, dI) classes (WM h g ca iv (u2 (u2 lv 12 44 n96) 12 45 n97) fa la) H := hP
            have hD : va_D A (WM h g ca iv (u2 (u2 lv 12 44 n96) 12 45 n97) fa la) := (show va_D _ (WM h g ca iv (u2 (u2 lv 12 44 n96) 12 45 n97) fa la) from hD).weaken (fun _ _ _ h => hFc _ h)
            have xr95_0 : (n96 : Int64).toInt = ((la 12 42) 1).toInt := xr95_0
            have xr95_1 : (n97 : Int64).toInt = ((la 12 43) 1).toInt := xr95_1
            refine lv_goto (tgt := 259) hx hb dX12_settleThree_188 (by decide) ?_
            have hP9 : va_P (dC, dI) classes (WM h g ca iv (u2 (u2 lv 12 44 n96) 12 45 n97) fa la) H := hP
            have hD9 : va_D A (WM h g ca iv (u2 (u2 lv 12 44 n96) 12 45 n97) fa la) := hD
            exact W.vret hx hb hr (fun t ht9 hW => ⟨⟨(iv, (u2 (u2 lv 12 44 n96) 12 45 n97), fa, la), rfl, ⟨n96, n97, (show thY (la 12 42) (la 12 43) (n96 : Int64).toInt (n97 : Int64).toInt (a).toInt from (by unfold thY; rw [← ka, ← kb, ← kc]; exact ⟨1, 1, Or.inr (Or.inl ⟨by omega, (by unfold l3R; omega), by decide⟩), Or.inl ⟨by decide, xr95_0, xr95_1⟩⟩)), rfl⟩, by rw [ht9]; exact hP9, hD9⟩, hS.F ht9⟩) hS.2.2 dX12_settleThree_259
        · have fc89 := zc_ngt ev88 (rfl : (w5).toInt = _) (rfl : (w15).toInt = _) c89
          refine lv_iconst (v := 0) hx hb dX12_settleThree_168 (by decide) ?_
          refine lv_goto (tgt := 185) hx hb dX12_settleThree_169 (by decide) ?_
          have hFc := free_all hD hS hA
          refine va_callv (va_runV (As := [.int 0]) (rest := []) ⟨hx, hb, hml, hown, ht⟩ (c_X12_only_w0 l dC dI s.heap.size h g ca iv lv fa la hI) (kV 1 ht m_1536 m_1538 m_59 m_89 m_1539 rfl rfl hd_X12_only_v ⟨Nat.le_of_ble_eq_true rfl, Nat.le_of_ble_eq_true rfl⟩) (vW hP hK hD (rM_12 hK hP)) rfl rfl hl.1 rfl (lv_room (Nat.le_of_ble_eq_true rfl)) dX12_settleThree_185 ⟨Nat.le_of_ble_eq_true rfl, Nat.le_of_ble_eq_true rfl⟩) hS (fun q _ h => hFc q h) hFc (fun u t H1 locs ht9 hvm hr98 hB hz1 hk1 hS => ?_)
          obtain ⟨n99, n100, xr98_0, xr98_1, rfl⟩ := hr98
          obtain ⟨hP, hD⟩ := hB
          rw [ht9] at hP
          generalize H1 = H at hP hS ⊢
          have hP : va_P (dC, dI) classes (WM h g ca iv (u2 (u2 lv 12 44 n99) 12 45 n100) fa la) H := hP
          have hD : va_D A (WM h g ca iv (u2 (u2 lv 12 44 n99) 12 45 n100) fa la) := (show va_D _ (WM h g ca iv (u2 (u2 lv 12 44 n99) 12 45 n100) fa la) from hD).weaken (fun _ _ _ h => hFc _ h)
          have xr98_0 : (n99 : Int64).toInt = ((la 12 42) 0).toInt := xr98_0
          have xr98_1 : (n100 : Int64).toInt = ((la 12 43) 0).toInt := xr98_1
          refine lv_goto (tgt := 259) hx hb dX12_settleThree_188 (by decide) ?_
          have hP9 : va_P (dC, dI) classes (WM h g ca iv (u2 (u2 lv 12 44 n99) 12 45 n100) fa la) H := hP
          have hD9 : va_D A (WM h g ca iv (u2 (u2 lv 12 44 n99) 12 45 n100) fa la) := hD
          exact W.vret hx hb hr (fun t ht9 hW => ⟨⟨(iv, (u2 (u2 lv 12 44 n99) 12 45 n100), fa, la), rfl, ⟨n99, n100, (show thY (la 12 42) (la 12 43) (n99 : Int64).toInt (n100 : Int64).toInt (a).toInt from (by unfold thY; rw [← ka, ← kb, ← kc]; exact ⟨0, 0, Or.inr (Or.inl ⟨by omega, (by unfold l3R; omega), by decide⟩), Or.inl ⟨by decide, xr98_0, xr98_1⟩⟩)), rfl⟩, by rw [ht9]; exact hP9, hD9⟩, hS.F ht9⟩) hS.2.2 dX12_settleThree_259
  · have fc16 := z_eq (rfl : (a).toInt = _) (by decide : (0 : Int32).toInt = 0) c16
    refine lv_lload_n hx hb dX12_settleThree_69 rfl (lv_at hl 2 rfl) ?_
    refine lv_lload hx hb dX12_settleThree_70 (lv_at hl 1 rfl) ?_
    refine lv_lsub hx hb dX12_settleThree_72 ?_
    refine lv_topl (fun w101 ew101 => ?_)
    refine vp_callSl (W.runS (As := [.long w101]) (rest := []) ⟨hx, hb, hml, hown, ht⟩ (c_X12_plain_f l dC dI w101) (kS 1 ht m_1445 m_1446 m_89 m_1447 rfl rfl hd_X12_plain_v ⟨Nat.le_of_ble_eq_true rfl, Nat.le_of_ble_eq_true rfl⟩) (sR noP (hK.sub (tys' := []) [] rfl)) rfl rfl hl.1 rfl (lv_room (Nat.le_of_ble_eq_true rfl)) dX12_settleThree_73 ⟨Nat.le_of_ble_eq_true rfl, Nat.le_of_ble_eq_true rfl⟩) (fun r102 hr102 => ?_)
    obtain ⟨hr102, xr102_0, xr102_1⟩ := hr102
    have xr102_0 : ((w101 : Int64).toInt < 0 ∨ (r102 : Int64).toInt = (w101 : Int64).toInt) := xr102_0
    have xr102_1 : (r102 : Int64).toInt = (absL (w101 : Int64)).toInt := xr102_1
    have kp : r102 = absL (w5 - w10) := by rw [Int64.toInt_inj.mp xr102_1, ew101]
    refine lv_lstore (lv' := [(8, .long r102), (6, .long w15), (4, .long w10), (2, .long w5), (0, .ref h), (1, .int a)]) hx hb dX12_settleThree_76 hl (by decide) rfl (fun ls hl => ?_)
    refine lv_lload_n hx hb dX12_settleThree_78 rfl (lv_at hl 3 rfl) ?_
    refine lv_lload hx hb dX12_settleThree_79 (lv_at hl 1 rfl) ?_
    refine lv_lsub hx hb dX12_settleThree_81 ?_
    refine lv_topl (fun w103 ew103 => ?_)
    refine vp_callSl (W.runS (As := [.long w103]) (rest := []) ⟨hx, hb, hml, hown, ht⟩ (c_X12_plain_f l dC dI w103) (kS 1 ht m_1445 m_1446 m_89 m_1447 rfl rfl hd_X12_plain_v ⟨Nat.le_of_ble_eq_true rfl, Nat.le_of_ble_eq_true rfl⟩) (sR noP (hK.sub (tys' := []) [] rfl)) rfl rfl hl.1 rfl (lv_room (Nat.le_of_ble_eq_true rfl)) dX12_settleThree_82 ⟨Nat.le_of_ble_eq_true rfl, Nat.le_of_ble_eq_true rfl⟩) (fun r104 hr104 => ?_)
    obtain ⟨hr104, xr104_0, xr104_1⟩ := hr104
    have xr104_0 : ((w103 : Int64).toInt < 0 ∨ (r104 : Int64).toInt = (w103 : Int64).toInt) := xr104_0
    have xr104_1 : (r104 : Int64).toInt = (absL (w103 : Int64)).toInt := xr104_1
    have kq : r104 = absL (w5 - w15) := by rw [Int64.toInt_inj.mp xr104_1, ew103]
    refine lv_lstore (lv' := [(10, .long r104), (8, .long r102), (6, .long w15), (4, .long w10), (2, .long w5), (0, .ref h), (1, .int a)]) hx hb dX12_settleThree_85 hl (by decide) rfl (fun ls hl => ?_)
    refine lv_lload hx hb dX12_settleThree_87 (lv_at hl 3 rfl) ?_
    refine lv_lload hx hb dX12_settleThree_89 (lv_at hl 2 rfl) ?_
    refine lv_lsub hx hb dX12_settleThree_91 ?_
    refine lv_topl (fun w105 ew105 => ?_)
    refine vp_callSl (W.runS (As := [.long w105]) (rest := []) ⟨hx, hb, hml, hown, ht⟩ (c_X12_plain_f l dC dI w105) (kS 1 ht m_1445 m_1446 m_89 m_1447 rfl rfl hd_X12_plain_v ⟨Nat.le_of_ble_eq_true rfl, Nat.le_of_ble_eq_true rfl⟩) (sR noP (hK.sub (tys' := []) [] rfl)) rfl rfl hl.1 rfl (lv_room (Nat.le_of_ble_eq_true rfl)) dX12_settleThree_92 ⟨Nat.le_of_ble_eq_true rfl, Nat.le_of_ble_eq_true rfl⟩) (fun r106 hr106 => ?_)
    obtain ⟨hr106, xr106_0, xr106_1⟩ := hr106
    have xr106_0 : ((w105 : Int64).toInt < 0 ∨ (r106 : Int64).toInt = (w105 : Int64).toInt) := xr106_0
    have xr106_1 : (r106 : Int64).toInt = (absL (w105 : Int64)).toInt := xr106_1
    have kr : r106 = absL (w10 - w15) := by rw [Int64.toInt_inj.mp xr106_1, ew105]
    refine lv_lstore (lv' := [(12, .long r106), (10, .long r104), (8, .long r102), (6, .long w15), (4, .long w10), (2, .long w5), (0, .ref h), (1, .int a)]) hx hb dX12_settleThree_95 hl (by decide) rfl (fun ls hl => ?_)
    refine lv_lload hx hb dX12_settleThree_97 (lv_at hl 2 rfl) ?_
    refine lv_lload hx hb dX12_settleThree_99 (lv_at hl 1 rfl) ?_
    refine W.lcmp hx hb dX12_settleThree_101 ?_
    refine lv_topi (fun v107 ev107 => ?_)
    refine lv_if_gt (tgt := 122) hx hb dX12_settleThree_102 (by decide) (fun c108 => ?_) (fun c108 => ?_)
    · have fc108 := zc_gt ev107 (rfl : (r102).toInt = _) (rfl : (r104).toInt = _) c108
      refine lv_lload hx hb dX12_settleThree_122 (lv_at hl 1 rfl) ?_
      refine lv_lload hx hb dX12_settleThree_124 (lv_at hl 0 rfl) ?_
      refine W.lcmp hx hb dX12_settleThree_126 ?_
      refine lv_topi (fun v109 ev109 => ?_)
      refine lv_if_gt (tgt := 139) hx hb dX12_settleThree_127 (by decide) (fun c110 => ?_) (fun c110 => ?_)
      · have fc110 := zc_gt ev109 (rfl : (r104).toInt = _) (rfl : (r106).toInt = _) c110
        refine lv_aload_n hx hb dX12_settleThree_139 rfl (lv_at hl 6 rfl) ?_
        refine lv_iconst (v := 1) hx hb dX12_settleThree_140 (by decide) ?_
        refine lv_iconst (v := 2) hx hb dX12_settleThree_141 (by decide) ?_
        have hFc := free_all hD hS hA
        refine va_callv (va_runV (As := [.int 1, .int 2]) (rest := []) ⟨hx, hb, hml, hown, ht⟩ (c_X12_half_w12 l dC dI s.heap.size h g ca iv lv fa la hI) (kV 2 ht m_1548 m_1550 m_61 m_89 m_1551 rfl rfl hd_X12_half_v ⟨Nat.le_of_ble_eq_true rfl, Nat.le_of_ble_eq_true rfl⟩) (vW hP hK hD (rM_12 hK hP)) rfl rfl hl.1 rfl (lv_room (Nat.le_of_ble_eq_true rfl)) dX12_settleThree_142 ⟨Nat.le_of_ble_eq_true rfl, Nat.le_of_ble_eq_true rfl⟩) hS (fun q _ h => hFc q h) hFc (fun u t H1 locs ht9 hvm hr111 hB hz1 hk1 hS => ?_)
        obtain ⟨n112, n113, xr111_0, xr111_1, rfl⟩ := hr111
        obtain ⟨hP, hD⟩ := hB
        rw [ht9] at hP
        generalize H1 = H at hP hS ⊢
        have hP : va_P (dC, dI) classes (WM h g ca iv (u2 (u2 lv 12 44 n112) 12 45 n113) fa la) H := hP
        have hD : va_D A (WM h g ca iv (u2 (u2 lv 12 44 n112) 12 45 n113) fa la) := (show va_D _ (WM h g ca iv (u2 (u2 lv 12 44 n112) 12 45 n113) fa la) from hD).weaken (fun _ _ _ h => hFc _ h)
        have xr111_0 : (n112 : Int64).toInt = ((la 12 42) 1 * (la 12 43) 2 + (la 12 42) 2 * (la 12 43) 1).toInt := xr111_0
        have xr111_1 : (n113 : Int64).toInt = (2 * (la 12 43) 1 * (la 12 43) 2).toInt := xr111_1
        refine lv_goto (tgt := 259) hx hb dX12_settleThree_145 (by decide) ?_
        have hP9 : va_P (dC, dI) classes (WM h g ca iv (u2 (u2 lv 12 44 n112) 12 45 n113) fa la) H := hP
        have hD9 : va_D A (WM h g ca iv (u2 (u2 lv 12 44 n112) 12 45 n113) fa la) := hD
        exact W.vret hx hb hr (fun t ht9 hW => ⟨⟨(iv, (u2 (u2 lv 12 44 n112) 12 45 n113), fa, la), rfl, ⟨n112, n113, (show thY (la 12 42) (la 12 43) (n112 : Int64).toInt (n113 : Int64).toInt (a).toInt from (by unfold thY; rw [← ka, ← kb, ← kc]; exact ⟨1, 2, Or.inl ⟨by omega, (by unfold nrR; rw [← kp, ← kq, ← kr]; omega)⟩, Or.inr ⟨by decide, xr111_0, xr111_1⟩⟩)), rfl⟩, by rw [ht9]; exact hP9, hD9⟩, hS.F ht9⟩) hS.2.2 dX12_settleThree_259
      · have fc110 := zc_ngt ev109 (rfl : (r104).toInt = _) (rfl : (r106).toInt = _) c110
        refine lv_aload_n hx hb dX12_settleThree_130 rfl (lv_at hl 6 rfl) ?_
        refine lv_iconst (v := 0) hx hb dX12_settleThree_131 (by decide) ?_
        refine lv_iconst (v := 2) hx hb dX12_settleThree_132 (by decide) ?_
        have hFc := free_all hD hS hA
        refine va_callv (va_runV (As := [.int 0, .int 2]) (rest := []) ⟨hx, hb, hml, hown, ht⟩ (c_X12_half_w02 l dC dI s.heap.size h g ca iv lv fa la hI) (kV 2 ht m_1548 m_1550 m_61 m_89 m_1551 rfl rfl hd_X12_half_v ⟨Nat.le_of_ble_eq_true rfl, Nat.le_of_ble_eq_true rfl⟩) (vW hP hK hD (rM_12 hK hP)) rfl rfl hl.1 rfl (lv_room (Nat.le_of_ble_eq_true rfl)) dX12_settleThree_133 ⟨Nat.le_of_ble_eq_true rfl, Nat.le_of_ble_eq_true rfl⟩) hS (fun q _ h => hFc q h) hFc (fun u t H1 locs ht9 hvm hr114 hB hz1 hk1 hS => ?_)
        obtain ⟨n115, n116, xr114_0, xr114_1, rfl⟩ := hr114
        obtain ⟨hP, hD⟩ := hB
        rw [ht9] at hP
        generalize H1 = H at hP hS ⊢
        have hP : va_P (dC, dI) classes (WM h g ca iv (u2 (u2 lv 12 44 n115) 12 45 n116) fa la) H := hP
        have hD : va_D A (WM h g ca iv (u2 (u2 lv 12 44 n115) 12 45 n116) fa la) := (show va_D _ (WM h g ca iv (u2 (u2 lv 12 44 n115) 12 45 n116) fa la) from hD).weaken (fun _ _ _ h => hFc _ h)
        have xr114_0 : (n115 : Int64).toInt = ((la 12 42) 0 * (la 12 43) 2 + (la 12 42) 2 * (la 12 43) 0).toInt := xr114_0
        have xr114_1 : (n116 : Int64).toInt = (2 * (la 12 43) 0 * (la 12 43) 2).toInt := xr114_1
        refine lv_goto (tgt := 145) hx hb dX12_settleThree_136 (by decide) ?_
        refine lv_goto (tgt := 259) hx hb dX12_settleThree_145 (by decide) ?_
        have hP9 : va_P (dC, dI) classes (WM h g ca iv (u2 (u2 lv 12 44 n115) 12 45 n116) fa la) H := hP
        have hD9 : va_D A (WM h g ca iv (u2 (u2 lv 12 44 n115) 12 45 n116) fa la) := hD
        exact W.vret hx hb hr (fun t ht9 hW => ⟨⟨(iv, (u2 (u2 lv 12 44 n115) 12 45 n116), fa, la), rfl, ⟨n115, n116, (show thY (la 12 42) (la 12 43) (n115 : Int64).toInt (n116 : Int64).toInt (a).toInt from (by unfold thY; rw [← ka, ← kb, ← kc]; exact ⟨0, 2, Or.inl ⟨by omega, (by unfold nrR; rw [← kp, ← kq, ← kr]; omega)⟩, Or.inr ⟨by decide, xr114_0, xr114_1⟩⟩)), rfl⟩, by rw [ht9]; exact hP9, hD9⟩, hS.F ht9⟩) hS.2.2 dX12_settleThree_259
    · have fc108 := zc_ngt ev107 (rfl : (r102).toInt = _) (rfl : (r104).toInt = _) c108
      refine lv_lload hx hb dX12_settleThree_105 (lv_at hl 2 rfl) ?_
      refine lv_lload hx hb dX12_settleThree_107 (lv_at hl 0 rfl) ?_
      refine W.lcmp hx hb dX12_settleThree_109 ?_
      refine lv_topi (fun v117 ev117 => ?_)
      refine lv_if_gt (tgt := 122) hx hb dX12_settleThree_110 (by decide) (fun c118 => ?_) (fun c118 => ?_)
      · have fc118 := zc_gt ev117 (rfl : (r102).toInt = _) (rfl : (r106).toInt = _) c118
        refine lv_lload hx hb dX12_settleThree_122 (lv_at hl 1 rfl) ?_
        refine lv_lload hx hb dX12_settleThree_124 (lv_at hl 0 rfl) ?_
        refine W.lcmp hx hb dX12_settleThree_126 ?_
        refine lv_topi (fun v119 ev119 => ?_)
        refine lv_if_gt (tgt := 139) hx hb dX12_settleThree_127 (by decide) (fun c120 => ?_) (fun c120 => ?_)
        · have fc120 := zc_gt ev119 (rfl : (r104).toInt = _) (rfl : (r106).toInt = _) c120
          refine lv_aload_n hx hb dX12_settleThree_139 rfl (lv_at hl 6 rfl) ?_
          refine lv_iconst (v := 1) hx hb dX12_settleThree_140 (by decide) ?_
          refine lv_iconst (v := 2) hx hb dX12_settleThree_141 (by decide) ?_
          have hFc := free_all hD hS hA
          refine va_callv (va_runV (As := [.int 1, .int 2]) (rest := []) ⟨hx, hb, hml, hown, ht⟩ (c_X12_half_w12 l dC dI s.heap.size h g ca iv lv fa la hI) (kV 2 ht m_1548 m_1550 m_61 m_89 m_1551 rfl rfl hd_X12_half_v ⟨Nat.le_of_ble_eq_true rfl, Nat.le_of_ble_eq_true rfl⟩) (vW hP hK hD (rM_12 hK hP)) rfl rfl hl.1 rfl (lv_room (Nat.le_of_ble_eq_true rfl)) dX12_settleThree_142 ⟨Nat.le_of_ble_eq_true rfl, Nat.le_of_ble_eq_true rfl⟩) hS (fun q _ h => hFc q h) hFc (fun u t H1 locs ht9 hvm hr121 hB hz1 hk1 hS => ?_)
          obtain ⟨n122, n123, xr121_0, xr121_1, rfl⟩ := hr121
          obtain ⟨hP, hD⟩ := hB
          rw [ht9] at hP
          generalize H1 = H at hP hS ⊢
          have hP : va_P (dC, dI) classes (WM h g ca iv (u2 (u2 lv 12 44 n122) 12 45 n123) fa la) H := hP
          have hD : va_D A (WM h g ca iv (u2 (u2 lv 12 44 n122) 12 45 n123) fa la) := (show va_D _ (WM h g ca iv (u2 (u2 lv 12 44 n122) 12 45 n123) fa la) from hD).weaken (fun _ _ _ h => hFc _ h)
          have xr121_0 : (n122 : Int64).toInt = ((la 12 42) 1 * (la 12 43) 2 + (la 12 42) 2 * (la 12 43) 1).toInt := xr121_0
          have xr121_1 : (n123 : Int64).toInt = (2 * (la 12 43) 1 * (la 12 43) 2).toInt := xr121_1
          refine lv_goto (tgt := 259) hx hb dX12_settleThree_145 (by decide) ?_
          have hP9 : va_P (dC, dI) classes (WM h g ca iv (u2 (u2 lv 12 44 n122) 12 45 n123) fa la) H := hP
          have hD9 : va_D A (WM h g ca iv (u2 (u2 lv 12 44 n122) 12 45 n123) fa la) := hD
          exact W.vret hx hb hr (fun t ht9 hW => ⟨⟨(iv, (u2 (u2 lv 12 44 n122) 12 45 n123), fa, la), rfl, ⟨n122, n123, (show thY (la 12 42) (la 12 43) (n122 : Int64).toInt (n123 : Int64).toInt (a).toInt from (by unfold thY; rw [← ka, ← kb, ← kc]; exact ⟨1, 2, Or.inl ⟨by omega, (by unfold nrR; rw [← kp, ← kq, ← kr]; omega)⟩, Or.inr ⟨by decide, xr121_0, xr121_1⟩⟩)), rfl⟩, by rw [ht9]; exact hP9, hD9⟩, hS.F ht9⟩) hS.2.2 dX12_settleThree_259
        · have fc120 := zc_ngt ev119 (rfl : (r104).toInt = _) (rfl : (r106).toInt = _) c120
          refine lv_aload_n hx hb dX12_settleThree_130 rfl (lv_at hl 6 rfl) ?_
          refine lv_iconst (v := 0) hx hb dX12_settleThree_131 (by decide) ?_
          refine lv_iconst (v := 2) hx hb dX12_settleThree_132 (by decide) ?_
          have hFc := free_all hD hS hA
          refine va_callv (va_runV (As := [.int 0, .int 2]) (rest := []) ⟨hx, hb, hml, hown, ht⟩ (c_X12_half_w02 l dC dI s.heap.size h g ca iv lv fa la hI) (kV 2 ht m_1548 m_1550 m_61 m_89 m_1551 rfl rfl hd_X12_half_v ⟨Nat.le_of_ble_eq_true rfl, Nat.le_of_ble_eq_true rfl⟩) (vW hP hK hD (rM_12 hK hP)) rfl rfl hl.1 rfl (lv_room (Nat.le_of_ble_eq_true rfl)) dX12_settleThree_133 ⟨Nat.le_of_ble_eq_true rfl, Nat.le_of_ble_eq_true rfl⟩) hS (fun q _ h => hFc q h) hFc (fun u t H1 locs ht9 hvm hr124 hB hz1 hk1 hS => ?_)
          obtain ⟨n125, n126, xr124_0, xr124_1, rfl⟩ := hr124
          obtain ⟨hP, hD⟩ := hB
          rw [ht9] at hP
          generalize H1 = H at hP hS ⊢
          have hP : va_P (dC, dI) classes (WM h g ca iv (u2 (u2 lv 12 44 n125) 12 45 n126) fa la) H := hP
          have hD : va_D A (WM h g ca iv (u2 (u2 lv 12 44 n125) 12 45 n126) fa la) := (show va_D _ (WM h g ca iv (u2 (u2 lv 12 44 n125) 12 45 n126) fa la) from hD).weaken (fun _ _ _ h => hFc _ h)
          have xr124_0 : (n125 : Int64).toInt = ((la 12 42) 0 * (la 12 43) 2 + (la 12 42) 2 * (la 12 43) 0).toInt := xr124_0
          have xr124_1 : (n126 : Int64).toInt = (2 * (la 12 43) 0 * (la 12 43) 2).toInt := xr124_1
          refine lv_goto (tgt := 145) hx hb dX12_settleThree_136 (by decide) ?_
          refine lv_goto (tgt := 259) hx hb dX12_settleThree_145 (by decide) ?_
          have hP9 : va_P (dC, dI) classes (WM h g ca iv (u2 (u2 lv 12 44 n125) 12 45 n126) fa la) H := hP
          have hD9 : va_D A (WM h g ca iv (u2 (u2 lv 12 44 n125) 12 45 n126) fa la) := hD
          exact W.vret hx hb hr (fun t ht9 hW => ⟨⟨(iv, (u2 (u2 lv 12 44 n125) 12 45 n126), fa, la), rfl, ⟨n125, n126, (show thY (la 12 42) (la 12 43) (n125 : Int64).toInt (n126 : Int64).toInt (a).toInt from (by unfold thY; rw [← ka, ← kb, ← kc]; exact ⟨0, 2, Or.inl ⟨by omega, (by unfold nrR; rw [← kp, ← kq, ← kr]; omega)⟩, Or.inr ⟨by decide, xr124_0, xr124_1⟩⟩)), rfl⟩, by rw [ht9]; exact hP9, hD9⟩, hS.F ht9⟩) hS.2.2 dX12_settleThree_259
      · have fc118 := zc_ngt ev117 (rfl : (r102).toInt = _) (rfl : (r106).toInt = _) c118
        refine lv_aload_n hx hb dX12_settleThree_113 rfl (lv_at hl 6 rfl) ?_
        refine lv_iconst (v := 0) hx hb dX12_settleThree_114 (by decide) ?_
        refine lv_iconst (v := 1) hx hb dX12_settleThree_115 (by decide) ?_
        have hFc := free_all hD hS hA
        refine va_callv (va_runV (As := [.int 0, .int 1]) (rest := []) ⟨hx, hb, hml, hown, ht⟩ (c_X12_half_w01 l dC dI s.heap.size h g ca iv lv fa la hI) (kV 2 ht m_1548 m_1550 m_61 m_89 m_1551 rfl rfl hd_X12_half_v ⟨Nat.le_of_ble_eq_true rfl, Nat.le_of_ble_eq_true rfl⟩) (vW hP hK hD (rM_12 hK hP)) rfl rfl hl.1 rfl (lv_room (Nat.le_of_ble_eq_true rfl)) dX12_settleThree_116 ⟨Nat.le_of_ble_eq_true rfl, Nat.le_of_ble_eq_true rfl⟩) hS (fun q _ h => hFc q h) hFc (fun u t H1 locs ht9 hvm hr127 hB hz1 hk1 hS => ?_)
        obtain ⟨n128, n129, xr127_0, xr127_1, rfl⟩ := hr127
        obtain ⟨hP, hD⟩ := hB
        rw [ht9] at hP
        generalize H1 = H at hP hS ⊢
        have hP : va_P (dC, dI) classes (WM h g ca iv (u2 (u2 lv 12 44 n128) 12 45 n129) fa la) H := hP
        have hD : va_D A (WM h g ca iv (u2 (u2 lv 12 44 n128) 12 45 n129) fa la) := (show va_D _ (WM h g ca iv (u2 (u2 lv 12 44 n128) 12 45 n129) fa la) from hD).weaken (fun _ _ _ h => hFc _ h)
        have xr127_0 : (n128 : Int64).toInt = ((la 12 42) 0 * (la 12 43) 1 + (la 12 42) 1 * (la 12 43) 0).toInt := xr127_0
        have xr127_1 : (n129 : Int64).toInt = (2 * (la 12 43) 0 * (la 12 43) 1).toInt := xr127_1
        refine lv_goto (tgt := 145) hx hb dX12_settleThree_119 (by decide) ?_
        refine lv_goto (tgt := 259) hx hb dX12_settleThree_145 (by decide) ?_
        have hP9 : va_P (dC, dI) classes (WM h g ca iv (u2 (u2 lv 12 44 n128) 12 45 n129) fa la) H := hP
        have hD9 : va_D A (WM h g ca iv (u2 (u2 lv 12 44 n128) 12 45 n129) fa la) := hD
        exact W.vret hx hb hr (fun t ht9 hW => ⟨⟨(iv, (u2 (u2 lv 12 44 n128) 12 45 n129), fa, la), rfl, ⟨n128, n129, (show thY (la 12 42) (la 12 43) (n128 : Int64).toInt (n129 : Int64).toInt (a).toInt from (by unfold thY; rw [← ka, ← kb, ← kc]; exact ⟨0, 1, Or.inl ⟨by omega, (by unfold nrR; rw [← kp, ← kq, ← kr]; omega)⟩, Or.inr ⟨by decide, xr127_0, xr127_1⟩⟩)), rfl⟩, by rw [ht9]; exact hP9, hD9⟩, hS.F ht9⟩) hS.2.2 dX12_settleThree_259
