set_option maxHeartbeats 4000000 in
set_option maxRecDepth 100000 in
/-- X11_cheat -/
theorem c_X11_cheat (l : Launch) (dC : Nat → ClassId) (dI : Nat → Nat → Nat) (h : Nat) (g : Nat → Nat → Nat) (ca : Nat → Nat → ClassId) (a0 : Int32) (a1 : Int32) (a2 : Int32) (a3 : Int32) : Met l yX11_cheat (wc yX11_cheat cX11_cheat 6 (some .int)) ({ frames := 1, cells := 0, slots := 0, locals := 21 } : Room) (pR (dC, dI) classes [(h, .inr (11, (o11 h g))), ((g 11 2), .inr (0, (o0 h g)))] [] [.ref h, .int a0, .int a1, .int a2, .int a3]) (vp_Si (fun r => r = -100001)) 0 0 (fun _ => False) := by
  refine Met.ofW (cc := cX11_cheat) (maxL := 6) (ret := (some .int)) (by decide) rfl ?_
  intro p e s m args below meth c s₁ B hml hv
  obtain ⟨rfl, hP, hK⟩ := hv
  have hx := B.exec
  have hb := B.bytes
  have hr := B.returns
  have ht := tb_tl (atoms_spec (ws := wc yX11_cheat cX11_cheat 6 (some .int)) B.pre)
  have hown : s.vm.findClass RX11 = some m.cls := findClass_of_methodNamed B.named
  have hlocks := B.notSynchronized
  have hl := lv_entry [.ref h, .int a0, .int a1, .int a2, .int a3] (n := 6) (Nat.le_of_ble_eq_true rfl)
  rw [lg_entry_eq]
  generalize (lg_sl [.ref h, .int a0, .int a1, .int a2, .int a3] ++ List.replicate (6 - (lg_sl [.ref h, .int a0, .int a1, .int a2, .int a3]).length) Slot.unset).toArray = ls at hl ⊢
  have hl : lv_has ls 6 [(0, .ref h), (1, .int a0), (2, .int a1), (3, .int a2), (4, .int a3)] := hl
  refine lv_aload_n hx hb dX11_cheat_0 rfl (lv_at hl 0 rfl) ?_
  refine va_get (D := (dC, dI)) (ci := 11) (v := .ref (g 11 2)) (C := RX11) (T := TX11) (N := 11) hx hb ht inX11 hown hK hP 0 rfl rfl 2 (by decide) (ht _ m_417) (fun _ h9 => h9) rfl dX11_cheat_1 ?_
  refine lv_iload_n hx hb dX11_cheat_4 rfl (lv_at hl 1 rfl) ?_
  have hPc := hP.sub (ws' := [((g 11 2), .inr (0, (o0 h g)))]) [1] rfl
  have hKc := hK.sub (tys' := []) [] rfl
  refine vp_callSi (W.runV (As := [.int a0]) (rest := []) ⟨hx, hb, hml, hown, ht⟩ (c_X0_has l dC dI h g ca a0) (kV 1 ht m_472 m_473 m_474 m_80 m_475 rfl rfl hd_X0_has_v ⟨Nat.le_of_ble_eq_true rfl, Nat.le_of_ble_eq_true rfl⟩) (vR hPc hKc (va_recv hKc hPc (ci := 0) (q0 := 0) rfl rfl)) rfl rfl hl.1 rfl (lv_room (Nat.le_of_ble_eq_true rfl)) dX11_cheat_5 ⟨Nat.le_of_ble_eq_true rfl, Nat.le_of_ble_eq_true rfl⟩) (fun r1 hr1 => ?_)
  obtain rfl : 0 = r1 := hr1.symm
  refine lv_if_ne (tgt := 14) hx hb dX11_cheat_8 (by decide) (fun c2 => ?_) (fun c2 => ?_)
  · exact absurd rfl c2
  · skip
    refine lv_ldc hx hb hown (ht _ m_476) dX11_cheat_11 ?_
    exact W.iret (v := (-100001)) hx hb hr (fun t ht9 hW => ⟨(-100001), rfl, rfl, ht9⟩) (fun q hq => by cases hq) dX11_cheat_13
set_option maxHeartbeats 4000000 in
set_option maxRecDepth 100000 in
/-- X11_certify -/
theorem c_X11_certify (l : Launch) (dC : Nat → ClassId) (dI : Nat → Nat → Nat) (h : Nat) (g : Nat → Nat → Nat) (ca : Nat → Nat → ClassId) (a0 : Int32) : Met l yX11_certify (wc yX11_certify cX11_certify 6 (some .int)) ({ frames := 1, cells := 0, slots := 0, locals := 21 } : Room) (pR (dC, dI) classes [(h, .inr (11, (o11 h g))), ((g 11 2), .inr (0, (o0 h g)))] [] [.ref h, .int a0]) (vp_Si (fun r => r = -100001)) 0 0 (fun _ => False) := by
  refine Met.ofW (cc := cX11_certify) (maxL := 6) (ret := (some .int)) (by decide) rfl ?_
  intro p e s m args below meth c s₁ B hml hv
  obtain ⟨rfl, hP, hK⟩ := hv
  have hx := B.exec
  have hb := B.bytes
  have hr := B.returns
  have ht := tb_tl (atoms_spec (ws := wc yX11_certify cX11_certify 6 (some .int)) B.pre)
  have hown : s.vm.findClass RX11 = some m.cls := findClass_of_methodNamed B.named
  have hlocks := B.notSynchronized
  have hl := lv_entry [.ref h, .int a0] (n := 6) (Nat.le_of_ble_eq_true rfl)
  rw [lg_entry_eq]
  generalize (lg_sl [.ref h, .int a0] ++ List.replicate (6 - (lg_sl [.ref h, .int a0]).length) Slot.unset).toArray = ls at hl ⊢
  have hl : lv_has ls 6 [(0, .ref h), (1, .int a0)] := hl
  refine lv_aload_n hx hb dX11_certify_0 rfl (lv_at hl 0 rfl) ?_
  refine va_get (D := (dC, dI)) (ci := 11) (v := .ref (g 11 2)) (C := RX11) (T := TX11) (N := 11) hx hb ht inX11 hown hK hP 0 rfl rfl 2 (by decide) (ht _ m_417) (fun _ h9 => h9) rfl dX11_certify_1 ?_
  refine lv_iload_n hx hb dX11_certify_4 rfl (lv_at hl 1 rfl) ?_
  have hPc := hP.sub (ws' := [((g 11 2), .inr (0, (o0 h g)))]) [1] rfl
  have hKc := hK.sub (tys' := []) [] rfl
  refine vp_callSi (W.runV (As := [.int a0]) (rest := []) ⟨hx, hb, hml, hown, ht⟩ (c_X0_has l dC dI h g ca a0) (kV 1 ht m_472 m_473 m_474 m_80 m_475 rfl rfl hd_X0_has_v ⟨Nat.le_of_ble_eq_true rfl, Nat.le_of_ble_eq_true rfl⟩) (vR hPc hKc (va_recv hKc hPc (ci := 0) (q0 := 0) rfl rfl)) rfl rfl hl.1 rfl (lv_room (Nat.le_of_ble_eq_true rfl)) dX11_certify_5 ⟨Nat.le_of_ble_eq_true rfl, Nat.le_of_ble_eq_true rfl⟩) (fun r1 hr1 => ?_)
  obtain rfl : 0 = r1 := hr1.symm
  refine lv_if_ne (tgt := 14) hx hb dX11_certify_8 (by decide) (fun c2 => ?_) (fun c2 => ?_)
  · exact absurd rfl c2
  · skip
    refine lv_ldc hx hb hown (ht _ m_476) dX11_certify_11 ?_
    exact W.iret (v := (-100001)) hx hb hr (fun t ht9 hW => ⟨(-100001), rfl, rfl, ht9⟩) (fun q hq => by cases hq) dX11_certify_13
set_option maxHeartbeats 4000000 in
set_option maxRecDepth 100000 in
/-- X11_lose -/
theorem c_X11_lose (l : Launch) (dC : Nat → ClassId) (dI : Nat → Nat → Nat) (h : Nat) (g : Nat → Nat → Nat) (ca : Nat → Nat → ClassId) (a0 : Int32) : Met l yX11_lose (wc yX11_lose cX11_lose 2 (some .int)) ({ frames := 1, cells := 0, slots := 0, locals := 21 } : Room) (pR (dC, dI) classes [(h, .inr (11, (o11 h g))), ((g 11 0), .inr (10, (o10 h g)))] [] [.ref h, .int a0]) (vp_Si (fun r => r = -100001)) 0 0 (fun _ => False) := by
  refine Met.ofW (cc := cX11_lose) (maxL := 2) (ret := (some .int)) (by decide) rfl ?_
  intro p e s m args below meth c s₁ B hml hv
  obtain ⟨rfl, hP, hK⟩ := hv
  have hx := B.exec
  have hb := B.bytes
  have hr := B.returns
  have ht := tb_tl (atoms_spec (ws := wc yX11_lose cX11_lose 2 (some .int)) B.pre)
  have hown : s.vm.findClass RX11 = some m.cls := findClass_of_methodNamed B.named
  have hlocks := B.notSynchronized
  have hl := lv_entry [.ref h, .int a0] (n := 2) (Nat.le_of_ble_eq_true rfl)
  rw [lg_entry_eq]
  generalize (lg_sl [.ref h, .int a0] ++ List.replicate (2 - (lg_sl [.ref h, .int a0]).length) Slot.unset).toArray = ls at hl ⊢
  have hl : lv_has ls 2 [(0, .ref h), (1, .int a0)] := hl
  refine lv_aload_n hx hb dX11_lose_0 rfl (lv_at hl 0 rfl) ?_
  refine va_get (D := (dC, dI)) (ci := 11) (v := .ref (g 11 0)) (C := RX11) (T := TX11) (N := 11) hx hb ht inX11 hown hK hP 0 rfl rfl 0 (by decide) (ht _ m_415) (fun _ h9 => h9) rfl dX11_lose_1 ?_
  refine lv_iload_n hx hb dX11_lose_4 rfl (lv_at hl 1 rfl) ?_
  have hPc := hP.sub (ws' := [((g 11 0), .inr (10, (o10 h g)))]) [1] rfl
  have hKc := hK.sub (tys' := []) [] rfl
  refine vp_callSi (W.runV (As := [.int a0]) (rest := []) ⟨hx, hb, hml, hown, ht⟩ (c_X10_has l dC dI h g ca a0) (kV 1 ht m_509 m_510 m_511 m_78 m_512 rfl rfl hd_X10_has_v ⟨Nat.le_of_ble_eq_true rfl, Nat.le_of_ble_eq_true rfl⟩) (vR hPc hKc (va_recv hKc hPc (ci := 10) (q0 := 0) rfl rfl)) rfl rfl hl.1 rfl (lv_room (Nat.le_of_ble_eq_true rfl)) dX11_lose_5 ⟨Nat.le_of_ble_eq_true rfl, Nat.le_of_ble_eq_true rfl⟩) (fun r1 hr1 => ?_)
  obtain rfl : 0 = r1 := hr1.symm
  refine lv_if_ne (tgt := 14) hx hb dX11_lose_8 (by decide) (fun c2 => ?_) (fun c2 => ?_)
  · exact absurd rfl c2
  · skip
    refine lv_ldc hx hb hown (ht _ m_476) dX11_lose_11 ?_
    exact W.iret (v := (-100001)) hx hb hr (fun t ht9 hW => ⟨(-100001), rfl, rfl, ht9⟩) (fun q hq => by cases hq) dX11_lose_13
set_option maxHeartbeats 4000000 in
set_option maxRecDepth 100000 in
/-- X11_told -/
theorem c_X11_told (l : Launch) (dC : Nat → ClassId) (dI : Nat → Nat → Nat) (h : Nat) (g : Nat → Nat → Nat) (ca : Nat → Nat → ClassId) (a0 : Int32) (a1 : Int32) : Met l yX11_told (wc yX11_told cX11_told 3 (some .int)) ({ frames := 1, cells := 0, slots := 0, locals := 21 } : Room) (pR (dC, dI) classes [(h, .inr (11, (o11 h g))), ((g 11 0), .inr (10, (o10 h g)))] [] [.ref h, .int a0, .int a1]) (vp_Si (fun r => r = -100001)) 0 0 (fun _ => False) := by
  refine Met.ofW (cc := cX11_told) (maxL := 3) (ret := (some .int)) (by decide) rfl ?_
  intro p e s m args below meth c s₁ B hml hv
  obtain ⟨rfl, hP, hK⟩ := hv
  have hx := B.exec
  have hb := B.bytes
  have hr := B.returns
  have ht := tb_tl (atoms_spec (ws := wc yX11_told cX11_told 3 (some .int)) B.pre)
  have hown : s.vm.findClass RX11 = some m.cls := findClass_of_methodNamed B.named
  have hlocks := B.notSynchronized
  have hl := lv_entry [.ref h, .int a0, .int a1] (n := 3) (Nat.le_of_ble_eq_true rfl)
  rw [lg_entry_eq]
  generalize (lg_sl [.ref h, .int a0, .int a1] ++ List.replicate (3 - (lg_sl [.ref h, .int a0, .int a1]).length) Slot.unset).toArray = ls at hl ⊢
  have hl : lv_has ls 3 [(0, .ref h), (1, .int a0), (2, .int a1)] := hl
  refine lv_aload_n hx hb dX11_told_0 rfl (lv_at hl 0 rfl) ?_
  refine va_get (D := (dC, dI)) (ci := 11) (v := .ref (g 11 0)) (C := RX11) (T := TX11) (N := 11) hx hb ht inX11 hown hK hP 0 rfl rfl 0 (by decide) (ht _ m_415) (fun _ h9 => h9) rfl dX11_told_1 ?_
  refine lv_iload_n hx hb dX11_told_4 rfl (lv_at hl 1 rfl) ?_
  have hPc := hP.sub (ws' := [((g 11 0), .inr (10, (o10 h g)))]) [1] rfl
  have hKc := hK.sub (tys' := []) [] rfl
  refine vp_callSi (W.runV (As := [.int a0]) (rest := []) ⟨hx, hb, hml, hown, ht⟩ (c_X10_has l dC dI h g ca a0) (kV 1 ht m_509 m_510 m_511 m_78 m_512 rfl rfl hd_X10_has_v ⟨Nat.le_of_ble_eq_true rfl, Nat.le_of_ble_eq_true rfl⟩) (vR hPc hKc (va_recv hKc hPc (ci := 10) (q0 := 0) rfl rfl)) rfl rfl hl.1 rfl (lv_room (Nat.le_of_ble_eq_true rfl)) dX11_told_5 ⟨Nat.le_of_ble_eq_true rfl, Nat.le_of_ble_eq_true rfl⟩) (fun r1 hr1 => ?_)
  obtain rfl : 0 = r1 := hr1.symm
  refine lv_if_ne (tgt := 14) hx hb dX11_told_8 (by decide) (fun c2 => ?_) (fun c2 => ?_)
  · exact absurd rfl c2
  · skip
    refine lv_ldc hx hb hown (ht _ m_476) dX11_told_11 ?_
    exact W.iret (v := (-100001)) hx hb hr (fun t ht9 hW => ⟨(-100001), rfl, rfl, ht9⟩) (fun q hq => by cases hq) dX11_told_13
set_option maxHeartbeats 4000000 in
set_option maxRecDepth 100000 in
/-- X11_letter -/
theorem c_X11_letter (l : Launch) (dC : Nat → ClassId) (dI : Nat → Nat → Nat) (h : Nat) (g : Nat → Nat → Nat) (ca : Nat → Nat → ClassId) (a0 : Int32) (a1 : Int32) : Met l yX11_letter (wc yX11_letter cX11_letter 3 (some .int)) ({ frames := 1, cells := 0, slots := 0, locals := 21 } : Room) (pR (dC, dI) classes [(h, .inr (11, (o11 h g))), ((g 11 3), .inr (1, (o1 h g)))] [] [.ref h, .int a0, .int a1]) (vp_Si (fun r => r = -100001)) 0 0 (fun _ => False) := by
  refine Met.ofW (cc := cX11_letter) (maxL := 3) (ret := (some .int)) (by decide) rfl ?_
  intro p e s m args below meth c s₁ B hml hv
  obtain ⟨rfl, hP, hK⟩ := hv
  have hx := B.exec
  have hb := B.bytes
  have hr := B.returns
  have ht := tb_tl (atoms_spec (ws := wc yX11_letter cX11_letter 3 (some .int)) B.pre)
  have hown : s.vm.findClass RX11 = some m.cls := findClass_of_methodNamed B.named
  have hlocks := B.notSynchronized
  have hl := lv_entry [.ref h, .int a0, .int a1] (n := 3) (Nat.le_of_ble_eq_true rfl)
  rw [lg_entry_eq]
  generalize (lg_sl [.ref h, .int a0, .int a1] ++ List.replicate (3 - (lg_sl [.ref h, .int a0, .int a1]).length) Slot.unset).toArray = ls at hl ⊢
  have hl : lv_has ls 3 [(0, .ref h), (1, .int a0), (2, .int a1)] := hl
  refine lv_aload_n hx hb dX11_letter_0 rfl (lv_at hl 0 rfl) ?_
  refine va_get (D := (dC, dI)) (ci := 11) (v := .ref (g 11 3)) (C := RX11) (T := TX11) (N := 11) hx hb ht inX11 hown hK hP 0 rfl rfl 3 (by decide) (ht _ m_418) (fun _ h9 => h9) rfl dX11_letter_1 ?_
  refine lv_iload_n hx hb dX11_letter_4 rfl (lv_at hl 1 rfl) ?_
  have hPc := hP.sub (ws' := [((g 11 3), .inr (1, (o1 h g)))]) [1] rfl
  have hKc := hK.sub (tys' := []) [] rfl
  refine vp_callSi (W.runV (As := [.int a0]) (rest := []) ⟨hx, hb, hml, hown, ht⟩ (c_X1_has l dC dI h g ca a0) (kV 1 ht m_821 m_822 m_823 m_81 m_824 rfl rfl hd_X1_has_v ⟨Nat.le_of_ble_eq_true rfl, Nat.le_of_ble_eq_true rfl⟩) (vR hPc hKc (va_recv hKc hPc (ci := 1) (q0 := 0) rfl rfl)) rfl rfl hl.1 rfl (lv_room (Nat.le_of_ble_eq_true rfl)) dX11_letter_5 ⟨Nat.le_of_ble_eq_true rfl, Nat.le_of_ble_eq_true rfl⟩) (fun r1 hr1 => ?_)
  obtain rfl : 0 = r1 := hr1.symm
  refine lv_if_eq (tgt := 23) hx hb dX11_letter_8 (by decide) (fun c2 => ?_) (fun c2 => ?_)
  · skip
    refine lv_ldc hx hb hown (ht _ m_476) dX11_letter_23 ?_
    exact W.iret (v := (-100001)) hx hb hr (fun t ht9 hW => ⟨(-100001), rfl, rfl, ht9⟩) (fun q hq => by cases hq) dX11_letter_25
  · exact absurd rfl c2
set_option maxHeartbeats 4000000 in
set_option maxRecDepth 100000 in
/-- X11_bill -/
theorem c_X11_bill (l : Launch) (dC : Nat → ClassId) (dI : Nat → Nat → Nat) (h : Nat) (g : Nat → Nat → Nat) (ca : Nat → Nat → ClassId) (a0 : Int32) (a1 : Int32) : Met l yX11_bill (wc yX11_bill cX11_bill 3 (some .int)) ({ frames := 1, cells := 0, slots := 0, locals := 21 } : Room) (pR (dC, dI) classes [(h, .inr (11, (o11 h g))), ((g 11 9), .inr (6, (o6 h g)))] [] [.ref h, .int a0, .int a1]) (vp_Si (fun r => r = -100001)) 0 0 (fun _ => False) := by
  refine Met.ofW (cc := cX11_bill) (maxL := 3) (ret := (some .int)) (by decide) rfl ?_
  intro p e s m args below meth c s₁ B hml hv
  obtain ⟨rfl, hP, hK⟩ := hv
  have hx := B.exec
  have hb := B.bytes
  have hr := B.returns
  have ht := tb_tl (atoms_spec (ws := wc yX11_bill cX11_bill 3 (some .int)) B.pre)
  have hown : s.vm.findClass RX11 = some m.cls := findClass_of_methodNamed B.named
  have hlocks := B.notSynchronized
  have hl := lv_entry [.ref h, .int a0, .int a1] (n := 3) (Nat.le_of_ble_eq_true rfl)
  rw [lg_entry_eq]
  generalize (lg_sl [.ref h, .int a0, .int a1] ++ List.replicate (3 - (lg_sl [.ref h, .int a0, .int a1]).length) Slot.unset).toArray = ls at hl ⊢
  have hl : lv_has ls 3 [(0, .ref h), (1, .int a0), (2, .int a1)] := hl
  refine lv_aload_n hx hb dX11_bill_0 rfl (lv_at hl 0 rfl) ?_
  refine va_get (D := (dC, dI)) (ci := 11) (v := .ref (g 11 9)) (C := RX11) (T := TX11) (N := 11) hx hb ht inX11 hown hK hP 0 rfl rfl 9 (by decide) (ht _ m_424) (fun _ h9 => h9) rfl dX11_bill_1 ?_
  refine lv_iload_n hx hb dX11_bill_4 rfl (lv_at hl 1 rfl) ?_
  have hPc := hP.sub (ws' := [((g 11 9), .inr (6, (o6 h g)))]) [1] rfl
  have hKc := hK.sub (tys' := []) [] rfl
  refine vp_callSi (W.runV (As := [.int a0]) (rest := []) ⟨hx, hb, hml, hown, ht⟩ (c_X6_has l dC dI h g ca a0) (kV 1 ht m_1095 m_1096 m_1097 m_88 m_1098 rfl rfl hd_X6_has_v ⟨Nat.le_of_ble_eq_true rfl, Nat.le_of_ble_eq_true rfl⟩) (vR hPc hKc (va_recv hKc hPc (ci := 6) (q0 := 0) rfl rfl)) rfl rfl hl.1 rfl (lv_room (Nat.le_of_ble_eq_true rfl)) dX11_bill_5 ⟨Nat.le_of_ble_eq_true rfl, Nat.le_of_ble_eq_true rfl⟩) (fun r1 hr1 => ?_)
  obtain rfl : 0 = r1 := hr1.symm
  refine lv_if_ne (tgt := 14) hx hb dX11_bill_8 (by decide) (fun c2 => ?_) (fun c2 => ?_)
  · exact absurd rfl c2
  · skip
    refine lv_ldc hx hb hown (ht _ m_476) dX11_bill_11 ?_
    exact W.iret (v := (-100001)) hx hb hr (fun t ht9 hW => ⟨(-100001), rfl, rfl, ht9⟩) (fun q hq => by cases hq) dX11_bill_13
set_option maxHeartbeats 4000000 in
set_option maxRecDepth 100000 in
/-- X11_cut -/
theorem c_X11_cut (l : Launch) (dC : Nat → ClassId) (dI : Nat → Nat → Nat) (h : Nat) (g : Nat → Nat → Nat) (ca : Nat → Nat → ClassId) (a0 : Int32) (a1 : Int32) (a2 : Int32) : Met l yX11_cut (wc yX11_cut cX11_cut 5 (some .int)) ({ frames := 1, cells := 0, slots := 0, locals := 21 } : Room) (pR (dC, dI) classes [(h, .inr (11, (o11 h g))), ((g 11 9), .inr (6, (o6 h g)))] [] [.ref h, .int a0, .int a1, .int a2]) (vp_Si (fun r => r = -100001)) 0 0 (fun _ => False) := by
  refine Met.ofW (cc := cX11_cut) (maxL := 5) (ret := (some .int)) (by decide) rfl ?_
  intro p e s m args below meth c s₁ B hml hv
  obtain ⟨rfl, hP, hK⟩ := hv
  have hx := B.exec
  have hb := B.bytes
  have hr := B.returns
  have ht := tb_tl (atoms_spec (ws := wc yX11_cut cX11_cut 5 (some .int)) B.pre)
  have hown : s.vm.findClass RX11 = some m.cls := findClass_of_methodNamed B.named
  have hlocks := B.notSynchronized
  have hl := lv_entry [.ref h, .int a0, .int a1, .int a2] (n := 5) (Nat.le_of_ble_eq_true rfl)
  rw [lg_entry_eq]
  generalize (lg_sl [.ref h, .int a0, .int a1, .int a2] ++ List.replicate (5 - (lg_sl [.ref h, .int a0, .int a1, .int a2]).length) Slot.unset).toArray = ls at hl ⊢
  have hl : lv_has ls 5 [(0, .ref h), (1, .int a0), (2, .int a1), (3, .int a2)] := hl
  refine lv_aload_n hx hb dX11_cut_0 rfl (lv_at hl 0 rfl) ?_
  refine va_get (D := (dC, dI)) (ci := 11) (v := .ref (g 11 9)) (C := RX11) (T := TX11) (N := 11) hx hb ht inX11 hown hK hP 0 rfl rfl 9 (by decide) (ht _ m_424) (fun _ h9 => h9) rfl dX11_cut_1 ?_
  refine lv_iload_n hx hb dX11_cut_4 rfl (lv_at hl 1 rfl) ?_
  have hPc := hP.sub (ws' := [((g 11 9), .inr (6, (o6 h g)))]) [1] rfl
  have hKc := hK.sub (tys' := []) [] rfl
  refine vp_callSi (W.runV (As := [.int a0]) (rest := []) ⟨hx, hb, hml, hown, ht⟩ (c_X6_has l dC dI h g ca a0) (kV 1 ht m_1095 m_1096 m_1097 m_88 m_1098 rfl rfl hd_X6_has_v ⟨Nat.le_of_ble_eq_true rfl, Nat.le_of_ble_eq_true rfl⟩) (vR hPc hKc (va_recv hKc hPc (ci := 6) (q0 := 0) rfl rfl)) rfl rfl hl.1 rfl (lv_room (Nat.le_of_ble_eq_true rfl)) dX11_cut_5 ⟨Nat.le_of_ble_eq_true rfl, Nat.le_of_ble_eq_true rfl⟩) (fun r1 hr1 => ?_)
  obtain rfl : 0 = r1 := hr1.symm
  refine lv_if_ne (tgt := 14) hx hb dX11_cut_8 (by decide) (fun c2 => ?_) (fun c2 => ?_)
  · exact absurd rfl c2
  · skip
    refine lv_ldc hx hb hown (ht _ m_476) dX11_cut_11 ?_
    exact W.iret (v := (-100001)) hx hb hr (fun t ht9 hW => ⟨(-100001), rfl, rfl, ht9⟩) (fun q hq => by cases hq) dX11_cut_13
set_option maxHeartbeats 4000000 in
set_option maxRecDepth 100000 in
/-- X11_undo -/
theorem c_X11_undo (l : Launch) (dC : Nat → ClassId) (dI : Nat → Nat → Nat) (h : Nat) (g : Nat → Nat → Nat) (ca : Nat → Nat → ClassId) (a0 : Int32) : Met l yX11_undo (wc yX11_undo cX11_undo 2 (some .int)) ({ frames := 1, cells := 0, slots := 0, locals := 21 } : Room) (pR (dC, dI) classes [(h, .inr (11, (o11 h g))), ((g 11 9), .inr (6, (o6 h g)))] [] [.ref h, .int a0]) (vp_Si (fun r => r = -100001)) 0 0 (fun _ => False) := by
  refine Met.ofW (cc := cX11_undo) (maxL := 2) (ret := (some .int)) (by decide) rfl ?_
  intro p e s m args below meth c s₁ B hml hv
  obtain ⟨rfl, hP, hK⟩ := hv
  have hx := B.exec
  have hb := B.bytes
  have hr := B.returns
  have ht := tb_tl (atoms_spec (ws := wc yX11_undo cX11_undo 2 (some .int)) B.pre)
  have hown : s.vm.findClass RX11 = some m.cls := findClass_of_methodNamed B.named
  have hlocks := B.notSynchronized
  have hl := lv_entry [.ref h, .int a0] (n := 2) (Nat.le_of_ble_eq_true rfl)
  rw [lg_entry_eq]
  generalize (lg_sl [.ref h, .int a0] ++ List.replicate (2 - (lg_sl [.ref h, .int a0]).length) Slot.unset).toArray = ls at hl ⊢
  have hl : lv_has ls 2 [(0, .ref h), (1, .int a0)] := hl
  refine lv_aload_n hx hb dX11_undo_0 rfl (lv_at hl 0 rfl) ?_
  refine va_get (D := (dC, dI)) (ci := 11) (v := .ref (g 11 9)) (C := RX11) (T := TX11) (N := 11) hx hb ht inX11 hown hK hP 0 rfl rfl 9 (by decide) (ht _ m_424) (fun _ h9 => h9) rfl dX11_undo_1 ?_
  refine lv_iload_n hx hb dX11_undo_4 rfl (lv_at hl 1 rfl) ?_
  have hPc := hP.sub (ws' := [((g 11 9), .inr (6, (o6 h g)))]) [1] rfl
  have hKc := hK.sub (tys' := []) [] rfl
  refine vp_callSi (W.runV (As := [.int a0]) (rest := []) ⟨hx, hb, hml, hown, ht⟩ (c_X6_has l dC dI h g ca a0) (kV 1 ht m_1095 m_1096 m_1097 m_88 m_1098 rfl rfl hd_X6_has_v ⟨Nat.le_of_ble_eq_true rfl, Nat.le_of_ble_eq_true rfl⟩) (vR hPc hKc (va_recv hKc hPc (ci := 6) (q0 := 0) rfl rfl)) rfl rfl hl.1 rfl (lv_room (Nat.le_of_ble_eq_true rfl)) dX11_undo_5 ⟨Nat.le_of_ble_eq_true rfl, Nat.le_of_ble_eq_true rfl⟩) (fun r1 hr1 => ?_)
  obtain rfl : 0 = r1 := hr1.symm
  refine lv_if_ne (tgt := 14) hx hb dX11_undo_8 (by decide) (fun c2 => ?_) (fun c2 => ?_)
  · exact absurd rfl c2
  · skip
    refine lv_ldc hx hb hown (ht _ m_476) dX11_undo_11 ?_
    exact W.iret (v := (-100001)) hx hb hr (fun t ht9 hW => ⟨(-100001), rfl, rfl, ht9⟩) (fun q hq => by cases hq) dX11_undo_13
set_option maxHeartbeats 4000000 in
set_option maxRecDepth 100000 in
/-- X11_paper -/
theorem c_X11_paper (l : Launch) (dC : Nat → ClassId) (dI : Nat → Nat → Nat) (h : Nat) (g : Nat → Nat → Nat) (ca : Nat → Nat → ClassId) (a0 : Int32) (a1 : Int32) : Met l yX11_paper (wc yX11_paper cX11_paper 3 (some .int)) ({ frames := 1, cells := 0, slots := 0, locals := 21 } : Room) (pR (dC, dI) classes [(h, .inr (11, (o11 h g))), ((g 11 9), .inr (6, (o6 h g)))] [] [.ref h, .int a0, .int a1]) (vp_Si (fun r => r = -100001)) 0 0 (fun _ => False) := by
  refine Met.ofW (cc := cX11_paper) (maxL := 3) (ret := (some .int)) (by decide) rfl ?_
  intro p e s m args below meth c s₁ B hml hv
  obtain ⟨rfl, hP, hK⟩ := hv
  have hx := B.exec
  have hb := B.bytes
  have hr := B.returns
  have ht := tb_tl (atoms_spec (ws := wc yX11_paper cX11_paper 3 (some .int)) B.pre)
  have hown : s.vm.findClass RX11 = some m.cls := findClass_of_methodNamed B.named
  have hlocks := B.notSynchronized
  have hl := lv_entry [.ref h, .int a0, .int a1] (n := 3) (Nat.le_of_ble_eq_true rfl)
  rw [lg_entry_eq]
  generalize (lg_sl [.ref h, .int a0, .int a1] ++ List.replicate (3 - (lg_sl [.ref h, .int a0, .int a1]).length) Slot.unset).toArray = ls at hl ⊢
  have hl : lv_has ls 3 [(0, .ref h), (1, .int a0), (2, .int a1)] := hl
  refine lv_aload_n hx hb dX11_paper_0 rfl (lv_at hl 0 rfl) ?_
  refine va_get (D := (dC, dI)) (ci := 11) (v := .ref (g 11 9)) (C := RX11) (T := TX11) (N := 11) hx hb ht inX11 hown hK hP 0 rfl rfl 9 (by decide) (ht _ m_424) (fun _ h9 => h9) rfl dX11_paper_1 ?_
  refine lv_iload_n hx hb dX11_paper_4 rfl (lv_at hl 1 rfl) ?_
  have hPc := hP.sub (ws' := [((g 11 9), .inr (6, (o6 h g)))]) [1] rfl
  have hKc := hK.sub (tys' := []) [] rfl
  refine vp_callSi (W.runV (As := [.int a0]) (rest := []) ⟨hx, hb, hml, hown, ht⟩ (c_X6_has l dC dI h g ca a0) (kV 1 ht m_1095 m_1096 m_1097 m_88 m_1098 rfl rfl hd_X6_has_v ⟨Nat.le_of_ble_eq_true rfl, Nat.le_of_ble_eq_true rfl⟩) (vR hPc hKc (va_recv hKc hPc (ci := 6) (q0 := 0) rfl rfl)) rfl rfl hl.1 rfl (lv_room (Nat.le_of_ble_eq_true rfl)) dX11_paper_5 ⟨Nat.le_of_ble_eq_true rfl, Nat.le_of_ble_eq_true rfl⟩) (fun r1 hr1 => ?_)
  obtain rfl : 0 = r1 := hr1.symm
  refine lv_if_ne (tgt := 14) hx hb dX11_paper_8 (by decide) (fun c2 => ?_) (fun c2 => ?_)
  · exact absurd rfl c2
  · skip
    refine lv_ldc hx hb hown (ht _ m_476) dX11_paper_11 ?_
    exact W.iret (v := (-100001)) hx hb hr (fun t ht9 hW => ⟨(-100001), rfl, rfl, ht9⟩) (fun q hq => by cases hq) dX11_paper_13
set_option maxHeartbeats 4000000 in
set_option maxRecDepth 100000 in
/-- X11_test -/
theorem c_X11_test (l : Launch) (dC : Nat → ClassId) (dI : Nat → Nat → Nat) (sz : Nat) (h : Nat) (g : Nat → Nat → Nat) (ca : Nat → Nat → ClassId) (a : Int32) (b : Int32) (d : Int32) : Met l yX11_test (wc yX11_test cX11_test 4 (some .int)) ({ frames := 1, cells := 0, slots := 0, locals := 23 } : Room) (pW (dC, dI) classes [(h, .inr (11, (o11 h g))), ((g 11 1), .inr (9, (o9 h g))), ((g 9 0), .inl ((ca 9 0), 30, .inl (fun _ => 0))), ((g 9 1), .inl ((ca 9 1), 30, .inl (fun _ => 0))), ((g 9 2), .inl ((ca 9 2), 30, .inl (fun _ => 0)))] [((ca 9 0), .int), ((ca 9 1), .int), ((ca 9 2), .int)] sz [.ref h, .int a, .int b, .int d]) (va_Qi (fun r (_ : Unit) => r = F_test a b d) (fun _ _ => True) (va_A [(h, .inr (11, (o11 h g))), ((g 11 1), .inr (9, (o9 h g))), ((g 9 0), .inl ((ca 9 0), 30, .inl (fun _ => 0))), ((g 9 1), .inl ((ca 9 1), 30, .inl (fun _ => 0))), ((g 9 2), .inl ((ca 9 2), 30, .inl (fun _ => 0)))] sz)) 0 0 (va_A [(h, .inr (11, (o11 h g))), ((g 11 1), .inr (9, (o9 h g))), ((g 9 0), .inl ((ca 9 0), 30, .inl (fun _ => 0))), ((g 9 1), .inl ((ca 9 1), 30, .inl (fun _ => 0))), ((g 9 2), .inl ((ca 9 2), 30, .inl (fun _ => 0)))] sz) := by
  refine Met.ofW (cc := cX11_test) (maxL := 4) (ret := (some .int)) (by decide) rfl ?_
  intro p e s m args below meth c s₁ B hml hv
  obtain ⟨rfl, hsz, hP, hK, hD0⟩ := hv
  have hx := B.exec
  have hb := B.bytes
  have hr := B.returns
  have ht := tb_tl (atoms_spec (ws := wc yX11_test cX11_test 4 (some .int)) B.pre)
  have hown : s.vm.findClass RX11 = some m.cls := findClass_of_methodNamed B.named
  have hlocks := B.notSynchronized
  subst hsz
  have hD := hD0.self (sz := s.heap.size)
  generalize hAe : va_A [(h, .inr (11, (o11 h g))), ((g 11 1), .inr (9, (o9 h g))), ((g 9 0), .inl ((ca 9 0), 30, .inl (fun _ => 0))), ((g 9 1), .inl ((ca 9 1), 30, .inl (fun _ => 0))), ((g 9 2), .inl ((ca 9 2), 30, .inl (fun _ => 0)))] s.heap.size = A at hD ⊢
  have hA : ∀ q : Nat, s.heap.size ≤ q → A q := fun q h => by rw [← hAe]; exact Or.inr h
  have hS : va_S A s.heap s.heap [] := va_S.rf
  have hP : va_P (dC, dI) classes [(h, .inr (11, (o11 h g))), ((g 11 1), .inr (9, (o9 h g))), ((g 9 0), .inl ((ca 9 0), 30, .inl (fun _ => 0))), ((g 9 1), .inl ((ca 9 1), 30, .inl (fun _ => 0))), ((g 9 2), .inl ((ca 9 2), 30, .inl (fun _ => 0)))] s.heap := hP
  have hl := lv_entry [.ref h, .int a, .int b, .int d] (n := 4) (Nat.le_of_ble_eq_true rfl)
  rw [lg_entry_eq]
  generalize (lg_sl [.ref h, .int a, .int b, .int d] ++ List.replicate (4 - (lg_sl [.ref h, .int a, .int b, .int d]).length) Slot.unset).toArray = ls at hl ⊢
  have hl : lv_has ls 4 [(0, .ref h), (1, .int a), (2, .int b), (3, .int d)] := hl
  refine lv_iload_n hx hb dX11_test_0 rfl (lv_at hl 1 rfl) ?_
  refine lv_iconst (v := 0) hx hb dX11_test_1 (by decide) ?_
  refine lv_iconst (v := 3) hx hb dX11_test_2 (by decide) ?_
  have hPc := hP.sub (ws' := []) [] rfl
  have hKc := hK.sub (tys' := []) [] rfl
  refine vp_callSi (W.runS (As := [.int a, .int 0, .int 3]) (rest := []) ⟨hx, hb, hml, hown, ht⟩ (c_X11_within l dC dI a 0 3 (a.toInt) (0) (3) (rfl : (a).toInt = _) (by decide : (0 : Int32).toInt = 0) (by decide : (3 : Int32).toInt = 3)) (kS 3 ht m_453 m_454 m_77 m_455 rfl rfl hd_X11_within_v ⟨Nat.le_of_ble_eq_true rfl, Nat.le_of_ble_eq_true rfl⟩) (sR hPc hKc) rfl rfl hl.1 rfl (lv_room (Nat.le_of_ble_eq_true rfl)) dX11_test_3 ⟨Nat.le_of_ble_eq_true rfl, Nat.le_of_ble_eq_true rfl⟩) (fun r1 hr1 => ?_)
  rcases hr1 with ⟨rfl, fr1⟩ | ⟨rfl, fr1⟩
  · skip
    refine lv_if_eq (tgt := 31) hx hb dX11_test_6 (by decide) (fun c2 => ?_) (fun c2 => ?_)
    · exact absurd c2 (by decide)
    · skip
      refine lv_iload_n hx hb dX11_test_9 rfl (lv_at hl 2 rfl) ?_
      refine lv_iconst (v := 1) hx hb dX11_test_10 (by decide) ?_
      refine lv_sipush (v := 9999) hx hb dX11_test_11 (by decide) ?_
      have hPc := hP.sub (ws' := []) [] rfl
      have hKc := hK.sub (tys' := []) [] rfl
      refine vp_callSi (W.runS (As := [.int b, .int 1, .int 9999]) (rest := []) ⟨hx, hb, hml, hown, ht⟩ (c_X11_within l dC dI b 1 9999 (b.toInt) (1) (9999) (rfl : (b).toInt = _) (by decide : (1 : Int32).toInt = 1) (by decide : (9999 : Int32).toInt = 9999)) (kS 3 ht m_453 m_454 m_77 m_455 rfl rfl hd_X11_within_v ⟨Nat.le_of_ble_eq_true rfl, Nat.le_of_ble_eq_true rfl⟩) (sR hPc hKc) rfl rfl hl.1 rfl (lv_room (Nat.le_of_ble_eq_true rfl)) dX11_test_14 ⟨Nat.le_of_ble_eq_true rfl, Nat.le_of_ble_eq_true rfl⟩) (fun r3 hr3 => ?_)
      rcases hr3 with ⟨rfl, fr3⟩ | ⟨rfl, fr3⟩
      · skip
        refine lv_if_eq (tgt := 31) hx hb dX11_test_17 (by decide) (fun c4 => ?_) (fun c4 => ?_)
        · exact absurd c4 (by decide)
        · skip
          refine lv_iload_n hx hb dX11_test_20 rfl (lv_at hl 3 rfl) ?_
          refine lv_iconst (v := 1) hx hb dX11_test_21 (by decide) ?_
          refine lv_sipush (v := 9999) hx hb dX11_test_22 (by decide) ?_
          have hPc := hP.sub (ws' := []) [] rfl
          have hKc := hK.sub (tys' := []) [] rfl
          refine vp_callSi (W.runS (As := [.int d, .int 1, .int 9999]) (rest := []) ⟨hx, hb, hml, hown, ht⟩ (c_X11_within l dC dI d 1 9999 (d.toInt) (1) (9999) (rfl : (d).toInt = _) (by decide : (1 : Int32).toInt = 1) (by decide : (9999 : Int32).toInt = 9999)) (kS 3 ht m_453 m_454 m_77 m_455 rfl rfl hd_X11_within_v ⟨Nat.le_of_ble_eq_true rfl, Nat.le_of_ble_eq_true rfl⟩) (sR hPc hKc) rfl rfl hl.1 rfl (lv_room (Nat.le_of_ble_eq_true rfl)) dX11_test_25 ⟨Nat.le_of_ble_eq_true rfl, Nat.le_of_ble_eq_true rfl⟩) (fun r5 hr5 => ?_)
          rcases hr5 with ⟨rfl, fr5⟩ | ⟨rfl, fr5⟩
          · skip
            refine lv_if_ne (tgt := 34) hx hb dX11_test_28 (by decide) (fun c6 => ?_) (fun c6 => ?_)
            · skip
              refine lv_aload_n hx hb dX11_test_34 rfl (lv_at hl 0 rfl) ?_
              refine va_get (D := (dC, dI)) (ci := 11) (v := .ref (g 11 1)) (C := RX11) (T := TX11) (N := 11) hx hb ht inX11 hown hK hP 0 rfl rfl 1 (by decide) (ht _ m_416) (fun _ h9 => h9) rfl dX11_test_35 ?_
              refine va_get (D := (dC, dI)) (ci := 9) (v := .int 0) (C := RX9) (T := TX9) (N := 4) hx hb ht inX9 hown hK hP 1 rfl rfl 3 (by decide) (ht _ m_136) (fun _ h9 => h9) rfl dX11_test_38 ?_
              refine lv_bipush (v := 30) hx hb dX11_test_41 (by decide) ?_
              refine lv_icmp_lt (tgt := 49) hx hb dX11_test_43 (by decide) (fun c7 => ?_) (fun c7 => ?_)
              · skip
                refine lv_aload_n hx hb dX11_test_49 rfl (lv_at hl 0 rfl) ?_
                refine va_get (D := (dC, dI)) (ci := 11) (v := .ref (g 11 1)) (C := RX11) (T := TX11) (N := 11) hx hb ht inX11 hown hK hP 0 rfl rfl 1 (by decide) (ht _ m_416) (fun _ h9 => h9) rfl dX11_test_50 ?_
                refine lv_iload_n hx hb dX11_test_53 rfl (lv_at hl 1 rfl) ?_
                refine lv_aload_n hx hb dX11_test_54 rfl (lv_at hl 0 rfl) ?_
                refine va_get (D := (dC, dI)) (ci := 11) (v := .int 0) (C := RX11) (T := TX11) (N := 11) hx hb ht inX11 hown hK hP 0 rfl rfl 10 (by decide) (ht _ m_425) (fun _ h9 => h9) rfl dX11_test_55 ?_
                refine lv_iload_n hx hb dX11_test_58 rfl (lv_at hl 2 rfl) ?_
                refine lv_iload_n hx hb dX11_test_59 rfl (lv_at hl 3 rfl) ?_
                refine lv_isub hx hb dX11_test_60 ?_
                refine lv_topi (fun v8 ev8 => ?_)
                have tv8 := z_sub ev8 (rfl : (b).toInt = _) (rfl : (d).toInt = _) (by omega) (by omega)
                have hPc := hP.sub (ws' := [((g 11 1), .inr (9, (o9 h g))), ((g 9 0), .inl ((ca 9 0), 30, .inl (fun _ => 0))), ((g 9 1), .inl ((ca 9 1), 30, .inl (fun _ => 0))), ((g 9 2), .inl ((ca 9 2), 30, .inl (fun _ => 0)))]) [1, 2, 3, 4] rfl
                have hKc := hK.sub (tys' := [((ca 9 0), .int), ((ca 9 1), .int), ((ca 9 2), .int)]) [0, 1, 2] rfl
                have hDc := hD.sub (ws' := [((g 11 1), .inr (9, (o9 h g))), ((g 9 0), .inl ((ca 9 0), 30, .inl (fun _ => 0))), ((g 9 1), .inl ((ca 9 1), 30, .inl (fun _ => 0))), ((g 9 2), .inl ((ca 9 2), 30, .inl (fun _ => 0)))]) [1, 2, 3, 4] (by decide) rfl
                have hFc := va_free (wc := [((g 11 1), .inr (9, (o9 h g))), ((g 9 0), .inl ((ca 9 0), 30, .inl (fun _ => 0))), ((g 9 1), .inl ((ca 9 1), 30, .inl (fun _ => 0))), ((g 9 2), .inl ((ca 9 2), 30, .inl (fun _ => 0)))]) hD hS hA [1, 2, 3, 4] rfl
                refine va_calli (va_runV (As := [.int a, .int 0, .int v8]) (rest := []) ⟨hx, hb, hml, hown, ht⟩ (c_X9_note l dC dI s.heap.size h g ca a v8) (kV 3 ht m_526 m_527 m_528 m_79 m_529 rfl rfl hd_X9_note_v ⟨Nat.le_of_ble_eq_true rfl, Nat.le_of_ble_eq_true rfl⟩) (vW hPc hKc hDc (va_recv hKc hPc (ci := 9) (q0 := 0) rfl rfl)) rfl rfl hl.1 rfl (lv_room (Nat.le_of_ble_eq_true rfl)) dX11_test_61 ⟨Nat.le_of_ble_eq_true rfl, Nat.le_of_ble_eq_true rfl⟩) hS (fun q _ h => hFc q h) hFc (fun r9 u t H1 locs ht9 hvm hr9 hB hz1 hk1 hS => ?_)
                have hP1 : va_P (dC, dI) classes [] H1 := noP
                have hD1 : va_D (va_A [((g 11 1), .inr (9, (o9 h g))), ((g 9 0), .inl ((ca 9 0), 30, .inl (fun _ => 0))), ((g 9 1), .inl ((ca 9 1), 30, .inl (fun _ => 0))), ((g 9 2), .inl ((ca 9 2), 30, .inl (fun _ => 0)))] s.heap.size) [] := noD
                obtain ⟨hP, hD⟩ := va_join (wr := [(h, .inr (11, (o11 h g)))]) (w1 := []) hP hD [1, 2, 3, 4] [0] rfl rfl (by decide) (by decide) hk1 hFc hP1 hD1
                generalize H1 = H at hP hS ⊢
                have hP : va_P (dC, dI) classes [(h, .inr (11, (o11 h g)))] H := hP
                have hD : va_D A [(h, .inr (11, (o11 h g)))] := hD
                obtain rfl : 1 = r9 := hr9.symm
                exact W.iret (v := 1) hx hb hr (fun t ht9 hW => ⟨⟨1, (), rfl, (by unfold F_test; first | decide | ((repeat' split) <;> first | rfl | (exfalso; omega) | exact z_of (by decide) (by omega))), trivial⟩, hS.F ht9⟩) hS.2.2 dX11_test_64
              · exact absurd c7 (by decide)
            · exact absurd c6 (by decide)
          · skip
            refine lv_if_ne (tgt := 34) hx hb dX11_test_28 (by decide) (fun c10 => ?_) (fun c10 => ?_)
            · exact absurd rfl c10
            · skip
              refine lv_ldc hx hb hown (ht _ m_456) dX11_test_31 ?_
              exact W.iret (v := (-100002)) hx hb hr (fun t ht9 hW => ⟨⟨(-100002), (), rfl, (by unfold F_test; first | decide | ((repeat' split) <;> first | rfl | (exfalso; omega) | exact z_of (by decide) (by omega))), trivial⟩, hS.F ht9⟩) hS.2.2 dX11_test_33
      · skip
        refine lv_if_eq (tgt := 31) hx hb dX11_test_17 (by decide) (fun c11 => ?_) (fun c11 => ?_)
        · skip
          refine lv_ldc hx hb hown (ht _ m_456) dX11_test_31 ?_
          exact W.iret (v := (-100002)) hx hb hr (fun t ht9 hW => ⟨⟨(-100002), (), rfl, (by unfold F_test; first | decide | ((repeat' split) <;> first | rfl | (exfalso; omega) | exact z_of (by decide) (by omega))), trivial⟩, hS.F ht9⟩) hS.2.2 dX11_test_33
        · exact absurd rfl c11
  · skip
    refine lv_if_eq (tgt := 31) hx hb dX11_test_6 (by decide) (fun c12 => ?_) (fun c12 => ?_)
    · skip
      refine lv_ldc hx hb hown (ht _ m_456) dX11_test_31 ?_
      exact W.iret (v := (-100002)) hx hb hr (fun t ht9 hW => ⟨⟨(-100002), (), rfl, (by unfold F_test; first | decide | ((repeat' split) <;> first | rfl | (exfalso; omega) | exact z_of (by decide) (by omega))), trivial⟩, hS.F ht9⟩) hS.2.2 dX11_test_33
    · exact absurd rfl c12
set_option maxHeartbeats 4000000 in
set_option maxRecDepth 100000 in
/-- X11_error -/
theorem c_X11_error (l : Launch) (dC : Nat → ClassId) (dI : Nat → Nat → Nat) (h : Nat) (g : Nat → Nat → Nat) (ca : Nat → Nat → ClassId) (a : Int32) (b : Int32) (d : Int32) : Met l yX11_error (wc yX11_error cX11_error 4 (some .int)) ({ frames := 2, cells := 0, slots := 0, locals := 64 } : Room) (pR (dC, dI) classes [(h, .inr (11, (o11 h g))), ((g 11 1), .inr (9, (o9 h g)))] [] [.ref h, .int a, .int b, .int d]) (vp_Si (fun r => r = F_error a b d)) 0 0 (fun _ => False) := by
  refine Met.ofW (cc := cX11_error) (maxL := 4) (ret := (some .int)) (by decide) rfl ?_
  intro p e s m args below meth c s₁ B hml hv
  obtain ⟨rfl, hP, hK⟩ := hv
  have hx := B.exec
  have hb := B.bytes
  have hr := B.returns
  have ht := tb_tl (atoms_spec (ws := wc yX11_error cX11_error 4 (some .int)) B.pre)
  have hown : s.vm.findClass RX11 = some m.cls := findClass_of_methodNamed B.named
  have hlocks := B.notSynchronized
  have hl := lv_entry [.ref h, .int a, .int b, .int d] (n := 4) (Nat.le_of_ble_eq_true rfl)
  rw [lg_entry_eq]
  generalize (lg_sl [.ref h, .int a, .int b, .int d] ++ List.replicate (4 - (lg_sl [.ref h, .int a, .int b, .int d]).length) Slot.unset).toArray = ls at hl ⊢
  have hl : lv_has ls 4 [(0, .ref h), (1, .int a), (2, .int b), (3, .int d)] := hl
  refine lv_iload_n hx hb dX11_error_0 rfl (lv_at hl 1 rfl) ?_
  refine lv_iconst (v := 0) hx hb dX11_error_1 (by decide) ?_
  refine lv_iconst (v := 3) hx hb dX11_error_2 (by decide) ?_
  have hPc := hP.sub (ws' := []) [] rfl
  have hKc := hK.sub (tys' := []) [] rfl
  refine vp_callSi (W.runS (As := [.int a, .int 0, .int 3]) (rest := []) ⟨hx, hb, hml, hown, ht⟩ (c_X11_within l dC dI a 0 3 (a.toInt) (0) (3) (rfl : (a).toInt = _) (by decide : (0 : Int32).toInt = 0) (by decide : (3 : Int32).toInt = 3)) (kS 3 ht m_453 m_454 m_77 m_455 rfl rfl hd_X11_within_v ⟨Nat.le_of_ble_eq_true rfl, Nat.le_of_ble_eq_true rfl⟩) (sR hPc hKc) rfl rfl hl.1 rfl (lv_room (Nat.le_of_ble_eq_true rfl)) dX11_error_3 ⟨Nat.le_of_ble_eq_true rfl, Nat.le_of_ble_eq_true rfl⟩) (fun r1 hr1 => ?_)
  rcases hr1 with ⟨rfl, fr1⟩ | ⟨rfl, fr1⟩
  · skip
    refine lv_if_eq (tgt := 29) hx hb dX11_error_6 (by decide) (fun c2 => ?_) (fun c2 => ?_)
    · exact absurd c2 (by decide)
    · skip
      refine lv_iload_n hx hb dX11_error_9 rfl (lv_at hl 2 rfl) ?_
      refine lv_iconst (v := 0) hx hb dX11_error_10 (by decide) ?_
      refine lv_sipush (v := 3000) hx hb dX11_error_11 (by decide) ?_
      have hPc := hP.sub (ws' := []) [] rfl
      have hKc := hK.sub (tys' := []) [] rfl
      refine vp_callSi (W.runS (As := [.int b, .int 0, .int 3000]) (rest := []) ⟨hx, hb, hml, hown, ht⟩ (c_X11_within l dC dI b 0 3000 (b.toInt) (0) (3000) (rfl : (b).toInt = _) (by decide : (0 : Int32).toInt = 0) (by decide : (3000 : Int32).toInt = 3000)) (kS 3 ht m_453 m_454 m_77 m_455 rfl rfl hd_X11_within_v ⟨Nat.le_of_ble_eq_true rfl, Nat.le_of_ble_eq_true rfl⟩) (sR hPc hKc) rfl rfl hl.1 rfl (lv_room (Nat.le_of_ble_eq_true rfl)) dX11_error_14 ⟨Nat.le_of_ble_eq_true rfl, Nat.le_of_ble_eq_true rfl⟩) (fun r3 hr3 => ?_)
      rcases hr3 with ⟨rfl, fr3⟩ | ⟨rfl, fr3⟩
      · skip
        refine lv_if_eq (tgt := 29) hx hb dX11_error_17 (by decide) (fun c4 => ?_) (fun c4 => ?_)
        · exact absurd c4 (by decide)
        · skip
          refine lv_iload_n hx hb dX11_error_20 rfl (lv_at hl 3 rfl) ?_
          refine lv_iconst (v := 0) hx hb dX11_error_21 (by decide) ?_
          refine lv_iconst (v := 1) hx hb dX11_error_22 (by decide) ?_
          have hPc := hP.sub (ws' := []) [] rfl
          have hKc := hK.sub (tys' := []) [] rfl
          refine vp_callSi (W.runS (As := [.int d, .int 0, .int 1]) (rest := []) ⟨hx, hb, hml, hown, ht⟩ (c_X11_within l dC dI d 0 1 (d.toInt) (0) (1) (rfl : (d).toInt = _) (by decide : (0 : Int32).toInt = 0) (by decide : (1 : Int32).toInt = 1)) (kS 3 ht m_453 m_454 m_77 m_455 rfl rfl hd_X11_within_v ⟨Nat.le_of_ble_eq_true rfl, Nat.le_of_ble_eq_true rfl⟩) (sR hPc hKc) rfl rfl hl.1 rfl (lv_room (Nat.le_of_ble_eq_true rfl)) dX11_error_23 ⟨Nat.le_of_ble_eq_true rfl, Nat.le_of_ble_eq_true rfl⟩) (fun r5 hr5 => ?_)
          rcases hr5 with ⟨rfl, fr5⟩ | ⟨rfl, fr5⟩
          · skip
            refine lv_if_ne (tgt := 32) hx hb dX11_error_26 (by decide) (fun c6 => ?_) (fun c6 => ?_)
            · skip
              refine lv_iload_n hx hb dX11_error_32 rfl (lv_at hl 3 rfl) ?_
              refine lv_if_ne (tgt := 48) hx hb dX11_error_33 (by decide) (fun c7 => ?_) (fun c7 => ?_)
              · have fc7 := z_ne (rfl : (d).toInt = _) (by decide : (0 : Int32).toInt = 0) c7
                refine lv_aload_n hx hb dX11_error_48 rfl (lv_at hl 0 rfl) ?_
                refine va_get (D := (dC, dI)) (ci := 11) (v := .ref (g 11 1)) (C := RX11) (T := TX11) (N := 11) hx hb ht inX11 hown hK hP 0 rfl rfl 1 (by decide) (ht _ m_416) (fun _ h9 => h9) rfl dX11_error_49 ?_
                refine lv_iload_n hx hb dX11_error_52 rfl (lv_at hl 1 rfl) ?_
                refine lv_iload_n hx hb dX11_error_53 rfl (lv_at hl 2 rfl) ?_
                have hPc := hP.sub (ws' := [((g 11 1), .inr (9, (o9 h g)))]) [1] rfl
                have hKc := hK.sub (tys' := []) [] rfl
                refine vp_callSi (W.runV (As := [.int a, .int b]) (rest := []) ⟨hx, hb, hml, hown, ht⟩ (c_X9_greatest l dC dI h g ca a b) (kV 2 ht m_553 m_554 m_555 m_79 m_556 rfl rfl hd_X9_greatest_v ⟨Nat.le_of_ble_eq_true rfl, Nat.le_of_ble_eq_true rfl⟩) (vR hPc hKc (va_recv hKc hPc (ci := 9) (q0 := 0) rfl rfl)) rfl rfl hl.1 rfl (lv_room (Nat.le_of_ble_eq_true rfl)) dX11_error_54 ⟨Nat.le_of_ble_eq_true rfl, Nat.le_of_ble_eq_true rfl⟩) (fun r8 hr8 => ?_)
                obtain rfl : 0 = r8 := hr8.symm
                exact W.iret (v := 0) hx hb hr (fun t ht9 hW => ⟨0, rfl, (by unfold F_error; first | decide | ((repeat' split) <;> first | rfl | (exfalso; omega) | exact z_of (by decide) (by omega))), ht9⟩) (fun q hq => by cases hq) dX11_error_57
              · have fc7 := z_eq (rfl : (d).toInt = _) (by decide : (0 : Int32).toInt = 0) c7
                refine lv_aload_n hx hb dX11_error_36 rfl (lv_at hl 0 rfl) ?_
                refine va_get (D := (dC, dI)) (ci := 11) (v := .ref (g 11 1)) (C := RX11) (T := TX11) (N := 11) hx hb ht inX11 hown hK hP 0 rfl rfl 1 (by decide) (ht _ m_416) (fun _ h9 => h9) rfl dX11_error_37 ?_
                refine lv_iload_n hx hb dX11_error_40 rfl (lv_at hl 1 rfl) ?_
                refine lv_iload_n hx hb dX11_error_41 rfl (lv_at hl 2 rfl) ?_
                have hPc := hP.sub (ws' := [((g 11 1), .inr (9, (o9 h g)))]) [1] rfl
                have hKc := hK.sub (tys' := []) [] rfl
                refine vp_callSi (W.runV (As := [.int a, .int b]) (rest := []) ⟨hx, hb, hml, hown, ht⟩ (c_X9_least l dC dI h g ca a b) (kV 2 ht m_534 m_535 m_536 m_79 m_537 rfl rfl hd_X9_least_v ⟨Nat.le_of_ble_eq_true rfl, Nat.le_of_ble_eq_true rfl⟩) (vR hPc hKc (va_recv hKc hPc (ci := 9) (q0 := 0) rfl rfl)) rfl rfl hl.1 rfl (lv_room (Nat.le_of_ble_eq_true rfl)) dX11_error_42 ⟨Nat.le_of_ble_eq_true rfl, Nat.le_of_ble_eq_true rfl⟩) (fun r9 hr9 => ?_)
                obtain rfl : 0 = r9 := hr9.symm
                refine lv_goto (tgt := 57) hx hb dX11_error_45 (by decide) ?_
                exact W.iret (v := 0) hx hb hr (fun t ht9 hW => ⟨0, rfl, (by unfold F_error; first | decide | ((repeat' split) <;> first | rfl | (exfalso; omega) | exact z_of (by decide) (by omega))), ht9⟩) (fun q hq => by cases hq) dX11_error_57
            · exact absurd c6 (by decide)
          · skip
            refine lv_if_ne (tgt := 32) hx hb dX11_error_26 (by decide) (fun c10 => ?_) (fun c10 => ?_)
            · exact absurd rfl c10
            · skip
              refine lv_ldc hx hb hown (ht _ m_456) dX11_error_29 ?_
              exact W.iret (v := (-100002)) hx hb hr (fun t ht9 hW => ⟨(-100002), rfl, (by unfold F_error; first | decide | ((repeat' split) <;> first | rfl | (exfalso; omega) | exact z_of (by decide) (by omega))), ht9⟩) (fun q hq => by cases hq) dX11_error_31
      · skip
        refine lv_if_eq (tgt := 29) hx hb dX11_error_17 (by decide) (fun c11 => ?_) (fun c11 => ?_)
        · skip
          refine lv_ldc hx hb hown (ht _ m_456) dX11_error_29 ?_
          exact W.iret (v := (-100002)) hx hb hr (fun t ht9 hW => ⟨(-100002), rfl, (by unfold F_error; first | decide | ((repeat' split) <;> first | rfl | (exfalso; omega) | exact z_of (by decide) (by omega))), ht9⟩) (fun q hq => by cases hq) dX11_error_31
        · exact absurd rfl c11
  · skip
    refine lv_if_eq (tgt := 29) hx hb dX11_error_6 (by decide) (fun c12 => ?_) (fun c12 => ?_)
    · skip
      refine lv_ldc hx hb hown (ht _ m_456) dX11_error_29 ?_
      exact W.iret (v := (-100002)) hx hb hr (fun t ht9 hW => ⟨(-100002), rfl, (by unfold F_error; first | decide | ((repeat' split) <;> first | rfl | (exfalso; omega) | exact z_of (by decide) (by omega))), ht9⟩) (fun q hq => by cases hq) dX11_error_31
    · exact absurd rfl c12
set_option maxHeartbeats 4000000 in
set_option maxRecDepth 100000 in
/-- X11_count -/
theorem c_X11_count (l : Launch) (dC : Nat → ClassId) (dI : Nat → Nat → Nat) (h : Nat) (g : Nat → Nat → Nat) (ca : Nat → Nat → ClassId) (n : Int32) : Met l yX11_count (wc yX11_count cX11_count 2 (some .int)) ({ frames := 1, cells := 0, slots := 0, locals := 23 } : Room) (pR (dC, dI) classes [(h, .inr (11, (o11 h g))), ((g 11 2), .inr (0, (o0 h g))), ((g 11 0), .inr (10, (o10 h g))), ((g 11 1), .inr (9, (o9 h g))), ((g 11 3), .inr (1, (o1 h g))), ((g 11 9), .inr (6, (o6 h g))), ((g 11 4), .inr (8, (o8 h g)))] [] [.ref h, .int n]) (vp_Si (fun r => r = F_count n)) 0 0 (fun _ => False) := by
  refine Met.ofW (cc := cX11_count) (maxL := 2) (ret := (some .int)) (by decide) rfl ?_
  intro p e s m args below meth c s₁ B hml hv
  obtain ⟨rfl, hP, hK⟩ := hv
  have hx := B.exec
  have hb := B.bytes
  have hr := B.returns
  have ht := tb_tl (atoms_spec (ws := wc yX11_count cX11_count 2 (some .int)) B.pre)
  have hown : s.vm.findClass RX11 = some m.cls := findClass_of_methodNamed B.named
  have hlocks := B.notSynchronized
  have hl := lv_entry [.ref h, .int n] (n := 2) (Nat.le_of_ble_eq_true rfl)
  rw [lg_entry_eq]
  generalize (lg_sl [.ref h, .int n] ++ List.replicate (2 - (lg_sl [.ref h, .int n]).length) Slot.unset).toArray = ls at hl ⊢
  have hl : lv_has ls 2 [(0, .ref h), (1, .int n)] := hl
  refine lv_iload_n hx hb dX11_count_0 rfl (lv_at hl 1 rfl) ?_
  rcases sw_0_10 n with h1 | rfl | rfl | rfl | rfl | rfl | rfl | rfl | rfl | rfl | rfl | rfl
  · refine lv_tableOut (tgt := 138) hx hb dX11_count_1 h1 (by decide) ?_
    refine lv_ldc hx hb hown (ht _ m_456) dX11_count_138 ?_
    exact W.iret (v := (-100002)) hx hb hr (fun t ht9 hW => ⟨(-100002), rfl, (by unfold F_count; first | decide | ((repeat' split) <;> first | rfl | (exfalso; omega) | exact z_of (by decide) (by omega))), ht9⟩) (fun q hq => by cases hq) dX11_count_140
  · refine lv_tableIn (tgt := 60) (off := 59) hx hb dX11_count_1 (by decide) (by decide) rfl (by decide) ?_
    refine lv_aload_n hx hb dX11_count_60 rfl (lv_at hl 0 rfl) ?_
    refine va_get (D := (dC, dI)) (ci := 11) (v := .int 0) (C := RX11) (T := TX11) (N := 11) hx hb ht inX11 hown hK hP 0 rfl rfl 10 (by decide) (ht _ m_425) (fun _ h9 => h9) rfl dX11_count_61 ?_
    exact W.iret (v := 0) hx hb hr (fun t ht9 hW => ⟨0, rfl, (by unfold F_count; first | decide | ((repeat' split) <;> first | rfl | (exfalso; omega) | exact z_of (by decide) (by omega))), ht9⟩) (fun q hq => by cases hq) dX11_count_64
  · refine lv_tableIn (tgt := 65) (off := 64) hx hb dX11_count_1 (by decide) (by decide) rfl (by decide) ?_
    refine lv_aload_n hx hb dX11_count_65 rfl (lv_at hl 0 rfl) ?_
    refine va_get (D := (dC, dI)) (ci := 11) (v := .ref (g 11 2)) (C := RX11) (T := TX11) (N := 11) hx hb ht inX11 hown hK hP 0 rfl rfl 2 (by decide) (ht _ m_417) (fun _ h9 => h9) rfl dX11_count_66 ?_
    refine va_get (D := (dC, dI)) (ci := 0) (v := .int 0) (C := RX0) (T := TX0) (N := 8) hx hb ht inX0 hown hK hP 1 rfl rfl 7 (by decide) (ht _ m_165) (fun _ h9 => h9) rfl dX11_count_69 ?_
    exact W.iret (v := 0) hx hb hr (fun t ht9 hW => ⟨0, rfl, (by unfold F_count; first | decide | ((repeat' split) <;> first | rfl | (exfalso; omega) | exact z_of (by decide) (by omega))), ht9⟩) (fun q hq => by cases hq) dX11_count_72
  · refine lv_tableIn (tgt := 73) (off := 72) hx hb dX11_count_1 (by decide) (by decide) rfl (by decide) ?_
    refine lv_aload_n hx hb dX11_count_73 rfl (lv_at hl 0 rfl) ?_
    refine va_get (D := (dC, dI)) (ci := 11) (v := .ref (g 11 0)) (C := RX11) (T := TX11) (N := 11) hx hb ht inX11 hown hK hP 0 rfl rfl 0 (by decide) (ht _ m_415) (fun _ h9 => h9) rfl dX11_count_74 ?_
    refine va_get (D := (dC, dI)) (ci := 10) (v := .int 0) (C := RX10) (T := TX10) (N := 3) hx hb ht inX10 hown hK hP 2 rfl rfl 1 (by decide) (ht _ m_114) (fun _ h9 => h9) rfl dX11_count_77 ?_
    exact W.iret (v := 0) hx hb hr (fun t ht9 hW => ⟨0, rfl, (by unfold F_count; first | decide | ((repeat' split) <;> first | rfl | (exfalso; omega) | exact z_of (by decide) (by omega))), ht9⟩) (fun q hq => by cases hq) dX11_count_80
  · refine lv_tableIn (tgt := 81) (off := 80) hx hb dX11_count_1 (by decide) (by decide) rfl (by decide) ?_
    refine lv_aload_n hx hb dX11_count_81 rfl (lv_at hl 0 rfl) ?_
    refine va_get (D := (dC, dI)) (ci := 11) (v := .ref (g 11 0)) (C := RX11) (T := TX11) (N := 11) hx hb ht inX11 hown hK hP 0 rfl rfl 0 (by decide) (ht _ m_415) (fun _ h9 => h9) rfl dX11_count_82 ?_
    refine va_get (D := (dC, dI)) (ci := 10) (v := .int 0) (C := RX10) (T := TX10) (N := 3) hx hb ht inX10 hown hK hP 2 rfl rfl 2 (by decide) (ht _ m_117) (fun _ h9 => h9) rfl dX11_count_85 ?_
    exact W.iret (v := 0) hx hb hr (fun t ht9 hW => ⟨0, rfl, (by unfold F_count; first | decide | ((repeat' split) <;> first | rfl | (exfalso; omega) | exact z_of (by decide) (by omega))), ht9⟩) (fun q hq => by cases hq) dX11_count_88
  · refine lv_tableIn (tgt := 89) (off := 88) hx hb dX11_count_1 (by decide) (by decide) rfl (by decide) ?_
    refine lv_aload_n hx hb dX11_count_89 rfl (lv_at hl 0 rfl) ?_
    refine va_get (D := (dC, dI)) (ci := 11) (v := .ref (g 11 1)) (C := RX11) (T := TX11) (N := 11) hx hb ht inX11 hown hK hP 0 rfl rfl 1 (by decide) (ht _ m_416) (fun _ h9 => h9) rfl dX11_count_90 ?_
    refine va_get (D := (dC, dI)) (ci := 9) (v := .int 0) (C := RX9) (T := TX9) (N := 4) hx hb ht inX9 hown hK hP 3 rfl rfl 3 (by decide) (ht _ m_136) (fun _ h9 => h9) rfl dX11_count_93 ?_
    exact W.iret (v := 0) hx hb hr (fun t ht9 hW => ⟨0, rfl, (by unfold F_count; first | decide | ((repeat' split) <;> first | rfl | (exfalso; omega) | exact z_of (by decide) (by omega))), ht9⟩) (fun q hq => by cases hq) dX11_count_96
  · refine lv_tableIn (tgt := 97) (off := 96) hx hb dX11_count_1 (by decide) (by decide) rfl (by decide) ?_
    refine lv_aload_n hx hb dX11_count_97 rfl (lv_at hl 0 rfl) ?_
    refine va_get (D := (dC, dI)) (ci := 11) (v := .ref (g 11 3)) (C := RX11) (T := TX11) (N := 11) hx hb ht inX11 hown hK hP 0 rfl rfl 3 (by decide) (ht _ m_418) (fun _ h9 => h9) rfl dX11_count_98 ?_
    refine va_get (D := (dC, dI)) (ci := 1) (v := .int 0) (C := RX1) (T := TX1) (N := 9) hx hb ht inX1 hown hK hP 4 rfl rfl 7 (by decide) (ht _ m_198) (fun _ h9 => h9) rfl dX11_count_101 ?_
    exact W.iret (v := 0) hx hb hr (fun t ht9 hW => ⟨0, rfl, (by unfold F_count; first | decide | ((repeat' split) <;> first | rfl | (exfalso; omega) | exact z_of (by decide) (by omega))), ht9⟩) (fun q hq => by cases hq) dX11_count_104
  · refine lv_tableIn (tgt := 105) (off := 104) hx hb dX11_count_1 (by decide) (by decide) rfl (by decide) ?_
    refine lv_aload_n hx hb dX11_count_105 rfl (lv_at hl 0 rfl) ?_
    refine va_get (D := (dC, dI)) (ci := 11) (v := .ref (g 11 9)) (C := RX11) (T := TX11) (N := 11) hx hb ht inX11 hown hK hP 0 rfl rfl 9 (by decide) (ht _ m_424) (fun _ h9 => h9) rfl dX11_count_106 ?_
    refine va_get (D := (dC, dI)) (ci := 6) (v := .int 0) (C := RX6) (T := TX6) (N := 8) hx hb ht inX6 hown hK hP 5 rfl rfl 7 (by decide) (ht _ m_397) (fun _ h9 => h9) rfl dX11_count_109 ?_
    exact W.iret (v := 0) hx hb hr (fun t ht9 hW => ⟨0, rfl, (by unfold F_count; first | decide | ((repeat' split) <;> first | rfl | (exfalso; omega) | exact z_of (by decide) (by omega))), ht9⟩) (fun q hq => by cases hq) dX11_count_112
  · refine lv_tableIn (tgt := 113) (off := 112) hx hb dX11_count_1 (by decide) (by decide) rfl (by decide) ?_
    refine lv_aload_n hx hb dX11_count_113 rfl (lv_at hl 0 rfl) ?_
    refine lv_iconst (v := 1) hx hb dX11_count_114 (by decide) ?_
    have hPc := hP.sub (ws' := [(h, .inr (11, (o11 h g))), ((g 11 2), .inr (0, (o0 h g)))]) [0, 1] rfl
    have hKc := hK.sub (tys' := []) [] rfl
    refine vp_callSi (W.runV (As := [.int 1]) (rest := []) ⟨hx, hb, hml, hown, ht⟩ (c_X11_balesIn l dC dI h g ca 1) (kV 1 ht m_591 m_593 m_4 m_77 m_594 rfl rfl hd_X11_balesIn_v ⟨Nat.le_of_ble_eq_true rfl, Nat.le_of_ble_eq_true rfl⟩) (vR hPc hKc (va_recv hKc hPc (ci := 11) (q0 := 0) rfl rfl)) rfl rfl hl.1 rfl (lv_room (Nat.le_of_ble_eq_true rfl)) dX11_count_115 ⟨Nat.le_of_ble_eq_true rfl, Nat.le_of_ble_eq_true rfl⟩) (fun r2 hr2 => ?_)
    obtain rfl : 0 = r2 := hr2.symm
    exact W.iret (v := 0) hx hb hr (fun t ht9 hW => ⟨0, rfl, (by unfold F_count; first | decide | ((repeat' split) <;> first | rfl | (exfalso; omega) | exact z_of (by decide) (by omega))), ht9⟩) (fun q hq => by cases hq) dX11_count_118
  · refine lv_tableIn (tgt := 119) (off := 118) hx hb dX11_count_1 (by decide) (by decide) rfl (by decide) ?_
    refine lv_aload_n hx hb dX11_count_119 rfl (lv_at hl 0 rfl) ?_
    refine lv_iconst (v := 2) hx hb dX11_count_120 (by decide) ?_
    have hPc := hP.sub (ws' := [(h, .inr (11, (o11 h g))), ((g 11 2), .inr (0, (o0 h g)))]) [0, 1] rfl
    have hKc := hK.sub (tys' := []) [] rfl
    refine vp_callSi (W.runV (As := [.int 2]) (rest := []) ⟨hx, hb, hml, hown, ht⟩ (c_X11_balesIn l dC dI h g ca 2) (kV 1 ht m_591 m_593 m_4 m_77 m_594 rfl rfl hd_X11_balesIn_v ⟨Nat.le_of_ble_eq_true rfl, Nat.le_of_ble_eq_true rfl⟩) (vR hPc hKc (va_recv hKc hPc (ci := 11) (q0 := 0) rfl rfl)) rfl rfl hl.1 rfl (lv_room (Nat.le_of_ble_eq_true rfl)) dX11_count_121 ⟨Nat.le_of_ble_eq_true rfl, Nat.le_of_ble_eq_true rfl⟩) (fun r3 hr3 => ?_)
    obtain rfl : 0 = r3 := hr3.symm
    exact W.iret (v := 0) hx hb hr (fun t ht9 hW => ⟨0, rfl, (by unfold F_count; first | decide | ((repeat' split) <;> first | rfl | (exfalso; omega) | exact z_of (by decide) (by omega))), ht9⟩) (fun q hq => by cases hq) dX11_count_124
  · refine lv_tableIn (tgt := 125) (off := 124) hx hb dX11_count_1 (by decide) (by decide) rfl (by decide) ?_
    refine lv_aload_n hx hb dX11_count_125 rfl (lv_at hl 0 rfl) ?_
    refine va_get (D := (dC, dI)) (ci := 11) (v := .ref (g 11 4)) (C := RX11) (T := TX11) (N := 11) hx hb ht inX11 hown hK hP 0 rfl rfl 4 (by decide) (ht _ m_419) (fun _ h9 => h9) rfl dX11_count_126 ?_
    refine va_get (D := (dC, dI)) (ci := 8) (v := .int 0) (C := RX8) (T := TX8) (N := 6) hx hb ht inX8 hown hK hP 6 rfl rfl 2 (by decide) (ht _ m_231) (fun _ h9 => h9) rfl dX11_count_129 ?_
    exact W.iret (v := 0) hx hb hr (fun t ht9 hW => ⟨0, rfl, (by unfold F_count; first | decide | ((repeat' split) <;> first | rfl | (exfalso; omega) | exact z_of (by decide) (by omega))), ht9⟩) (fun q hq => by cases hq) dX11_count_132
  · refine lv_tableIn (tgt := 133) (off := 132) hx hb dX11_count_1 (by decide) (by decide) rfl (by decide) ?_
    refine lv_aload_n hx hb dX11_count_133 rfl (lv_at hl 0 rfl) ?_
    have hPc := hP.sub (ws' := [(h, .inr (11, (o11 h g))), ((g 11 9), .inr (6, (o6 h g)))]) [0, 5] rfl
    have hKc := hK.sub (tys' := []) [] rfl
    refine vp_callSi (W.runV (As := []) (rest := []) ⟨hx, hb, hml, hown, ht⟩ (c_X11_fees l dC dI h g ca) (kV 0 ht m_659 m_661 m_15 m_77 m_662 rfl rfl hd_X11_fees_v ⟨Nat.le_of_ble_eq_true rfl, Nat.le_of_ble_eq_true rfl⟩) (vR hPc hKc (va_recv hKc hPc (ci := 11) (q0 := 0) rfl rfl)) rfl rfl hl.1 rfl (lv_room (Nat.le_of_ble_eq_true rfl)) dX11_count_134 ⟨Nat.le_of_ble_eq_true rfl, Nat.le_of_ble_eq_true rfl⟩) (fun r4 hr4 => ?_)
    obtain rfl : 0 = r4 := hr4.symm
    exact W.iret (v := 0) hx hb hr (fun t ht9 hW => ⟨0, rfl, (by unfold F_count; first | decide | ((repeat' split) <;> first | rfl | (exfalso; omega) | exact z_of (by decide) (by omega))), ht9⟩) (fun q hq => by cases hq) dX11_count_137
set_option maxHeartbeats 4000000 in
set_option maxRecDepth 100000 in
/-- X11_feed -/
theorem c_X11_feed (l : Launch) (dC : Nat → ClassId) (dI : Nat → Nat → Nat) (sz : Nat) (h : Nat) (g : Nat → Nat → Nat) (ca : Nat → Nat → ClassId) (n : Int32) (k : Int64) : Met l yX11_feed (wc yX11_feed cX11_feed 4 (some .int)) ({ frames := 1, cells := 0, slots := 0, locals := 24 } : Room) (pW (dC, dI) classes [(h, .inr (11, (o11 h g))), ((g 11 4), .inr (8, (o8 h g))), ((g 8 1), .inl ((ca 8 1), 200, .inl (fun _ => 0)))] [((ca 8 1), .byte)] sz [.ref h, .int n, .long k]) (va_Qi (fun r (_ : Unit) => r = F_feed n) (fun _ _ => True) (va_A [(h, .inr (11, (o11 h g))), ((g 11 4), .inr (8, (o8 h g))), ((g 8 1), .inl ((ca 8 1), 200, .inl (fun _ => 0)))] sz)) 0 0 (va_A [(h, .inr (11, (o11 h g))), ((g 11 4), .inr (8, (o8 h g))), ((g 8 1), .inl ((ca 8 1), 200, .inl (fun _ => 0)))] sz) := by
  refine Met.ofW (cc := cX11_feed) (maxL := 4) (ret := (some .int)) (by decide) rfl ?_
  intro p e s m args below meth c s₁ B hml hv
  obtain ⟨rfl, hsz, hP, hK, hD0⟩ := hv
  have hx := B.exec
  have hb := B.bytes
  have hr := B.returns
  have ht := tb_tl (atoms_spec (ws := wc yX11_feed cX11_feed 4 (some .int)) B.pre)
  have hown : s.vm.findClass RX11 = some m.cls := findClass_of_methodNamed B.named
  have hlocks := B.notSynchronized
  subst hsz
  have hD := hD0.self (sz := s.heap.size)
  generalize hAe : va_A [(h, .inr (11, (o11 h g))), ((g 11 4), .inr (8, (o8 h g))), ((g 8 1), .inl ((ca 8 1), 200, .inl (fun _ => 0)))] s.heap.size = A at hD ⊢
  have hA : ∀ q : Nat, s.heap.size ≤ q → A q := fun q h => by rw [← hAe]; exact Or.inr h
  have hS : va_S A s.heap s.heap [] := va_S.rf
  have hP : va_P (dC, dI) classes [(h, .inr (11, (o11 h g))), ((g 11 4), .inr (8, (o8 h g))), ((g 8 1), .inl ((ca 8 1), 200, .inl (fun _ => 0)))] s.heap := hP
  have hl := lv_entry [.ref h, .int n, .long k] (n := 4) (Nat.le_of_ble_eq_true rfl)
  rw [lg_entry_eq]
  generalize (lg_sl [.ref h, .int n, .long k] ++ List.replicate (4 - (lg_sl [.ref h, .int n, .long k]).length) Slot.unset).toArray = ls at hl ⊢
  have hl : lv_has ls 4 [(0, .ref h), (1, .int n), (2, .long k)] := hl
  refine lv_iload_n hx hb dX11_feed_0 rfl (lv_at hl 1 rfl) ?_
  refine lv_iconst (v := 1) hx hb dX11_feed_1 (by decide) ?_
  refine lv_bipush (v := 8) hx hb dX11_feed_2 (by decide) ?_
  have hPc := hP.sub (ws' := []) [] rfl
  have hKc := hK.sub (tys' := []) [] rfl
  refine vp_callSi (W.runS (As := [.int n, .int 1, .int 8]) (rest := []) ⟨hx, hb, hml, hown, ht⟩ (c_X11_within l dC dI n 1 8 (n.toInt) (1) (8) (rfl : (n).toInt = _) (by decide : (1 : Int32).toInt = 1) (by decide : (8 : Int32).toInt = 8)) (kS 3 ht m_453 m_454 m_77 m_455 rfl rfl hd_X11_within_v ⟨Nat.le_of_ble_eq_true rfl, Nat.le_of_ble_eq_true rfl⟩) (sR hPc hKc) rfl rfl hl.1 rfl (lv_room (Nat.le_of_ble_eq_true rfl)) dX11_feed_4 ⟨Nat.le_of_ble_eq_true rfl, Nat.le_of_ble_eq_true rfl⟩) (fun r1 hr1 => ?_)
  rcases hr1 with ⟨rfl, fr1⟩ | ⟨rfl, fr1⟩
  · skip
    refine lv_if_ne (tgt := 13) hx hb dX11_feed_7 (by decide) (fun c2 => ?_) (fun c2 => ?_)
    · skip
      refine lv_aload_n hx hb dX11_feed_13 rfl (lv_at hl 0 rfl) ?_
      refine va_get (D := (dC, dI)) (ci := 11) (v := .ref (g 11 4)) (C := RX11) (T := TX11) (N := 11) hx hb ht inX11 hown hK hP 0 rfl rfl 4 (by decide) (ht _ m_419) (fun _ h9 => h9) rfl dX11_feed_14 ?_
      refine va_get (D := (dC, dI)) (ci := 8) (v := .int 0) (C := RX8) (T := TX8) (N := 6) hx hb ht inX8 hown hK hP 1 rfl rfl 2 (by decide) (ht _ m_231) (fun _ h9 => h9) rfl dX11_feed_17 ?_
      refine lv_iload_n hx hb dX11_feed_20 rfl (lv_at hl 1 rfl) ?_
      refine lv_iadd hx hb dX11_feed_21 ?_
      refine lv_topi (fun v3 ev3 => ?_)
      obtain rfl : n = v3 := (ev3.trans (Int32.zero_add _)).symm
      refine lv_sipush (v := 200) hx hb dX11_feed_22 (by decide) ?_
      refine lv_icmp_le (tgt := 33) hx hb dX11_feed_25 (by decide) (fun c4 => ?_) (fun c4 => ?_)
      · skip
        refine lv_aload_n hx hb dX11_feed_33 rfl (lv_at hl 0 rfl) ?_
        refine va_get (D := (dC, dI)) (ci := 11) (v := .ref (g 11 4)) (C := RX11) (T := TX11) (N := 11) hx hb ht inX11 hown hK hP 0 rfl rfl 4 (by decide) (ht _ m_419) (fun _ h9 => h9) rfl dX11_feed_34 ?_
        refine lv_iload_n hx hb dX11_feed_37 rfl (lv_at hl 1 rfl) ?_
        refine lv_lload_n hx hb dX11_feed_38 rfl (lv_at hl 2 rfl) ?_
        have hPc := hP.sub (ws' := [((g 11 4), .inr (8, (o8 h g))), ((g 8 1), .inl ((ca 8 1), 200, .inl (fun _ => 0)))]) [1, 2] rfl
        have hKc := hK.sub (tys' := [((ca 8 1), .byte)]) [0] rfl
        have hDc := hD.sub (ws' := [((g 11 4), .inr (8, (o8 h g))), ((g 8 1), .inl ((ca 8 1), 200, .inl (fun _ => 0)))]) [1, 2] (by decide) rfl
        have hFc := va_free (wc := [((g 11 4), .inr (8, (o8 h g))), ((g 8 1), .inl ((ca 8 1), 200, .inl (fun _ => 0)))]) hD hS hA [1, 2] rfl
        refine va_calli (va_runV (As := [.int n, .long k]) (rest := []) ⟨hx, hb, hml, hown, ht⟩ (c_X8_take l dC dI s.heap.size h g ca n k (by omega)) (kV 2 ht m_672 m_673 m_674 m_82 m_675 rfl rfl hd_X8_take_v ⟨Nat.le_of_ble_eq_true rfl, Nat.le_of_ble_eq_true rfl⟩) (vW hPc hKc hDc (va_recv hKc hPc (ci := 8) (q0 := 0) rfl rfl)) rfl rfl hl.1 rfl (lv_room (Nat.le_of_ble_eq_true rfl)) dX11_feed_39 ⟨Nat.le_of_ble_eq_true rfl, Nat.le_of_ble_eq_true rfl⟩) hS (fun q _ h => hFc q h) hFc (fun r5 u t H1 locs ht9 hvm hr5 hB hz1 hk1 hS => ?_)
        have hP1 : va_P (dC, dI) classes [] H1 := noP
        have hD1 : va_D (va_A [((g 11 4), .inr (8, (o8 h g))), ((g 8 1), .inl ((ca 8 1), 200, .inl (fun _ => 0)))] s.heap.size) [] := noD
        obtain ⟨hP, hD⟩ := va_join (wr := [(h, .inr (11, (o11 h g)))]) (w1 := []) hP hD [1, 2] [0] rfl rfl (by decide) (by decide) hk1 hFc hP1 hD1
        generalize H1 = H at hP hS ⊢
        have hP : va_P (dC, dI) classes [(h, .inr (11, (o11 h g)))] H := hP
        have hD : va_D A [(h, .inr (11, (o11 h g)))] := hD
        obtain rfl : (n) = r5 := hr5.symm
        exact W.iret (v := (n)) hx hb hr (fun t ht9 hW => ⟨⟨(n), (), rfl, (by unfold F_feed; first | decide | ((repeat' split) <;> first | rfl | (exfalso; omega) | exact z_of (by decide) (by omega))), trivial⟩, hS.F ht9⟩) hS.2.2 dX11_feed_42
      · have fc4 := z_nle (rfl : (n).toInt = _) (by decide : (200 : Int32).toInt = 200) c4; exfalso; omega
    · exact absurd c2 (by decide)
  · skip
    refine lv_if_ne (tgt := 13) hx hb dX11_feed_7 (by decide) (fun c6 => ?_) (fun c6 => ?_)
    · exact absurd rfl c6
    · skip
      refine lv_ldc hx hb hown (ht _ m_456) dX11_feed_10 ?_
      exact W.iret (v := (-100002)) hx hb hr (fun t ht9 hW => ⟨⟨(-100002), (), rfl, (by unfold F_feed; first | decide | ((repeat' split) <;> first | rfl | (exfalso; omega) | exact z_of (by decide) (by omega))), trivial⟩, hS.F ht9⟩) hS.2.2 dX11_feed_12
set_option maxHeartbeats 4000000 in
set_option maxRecDepth 100000 in
/-- X11_rule -/
theorem c_X11_rule (l : Launch) (dC : Nat → ClassId) (dI : Nat → Nat → Nat) (sz : Nat) (h : Nat) (g : Nat → Nat → Nat) (ca : Nat → Nat → ClassId) (n : Int32) : Met l yX11_rule (wc yX11_rule cX11_rule 3 (some .int)) ({ frames := 2, cells := 0, slots := 0, locals := 42 } : Room) (pW (dC, dI) classes [(h, .inr (11, (o11 h g))), ((g 11 3), .inr (1, (o1 h g))), ((g 11 4), .inr (8, (o8 h g))), ((g 1 0), .inl ((ca 1 0), 8, .inl (fun _ => 0))), ((g 1 1), .inl ((ca 1 1), 8, .inl (fun _ => 0)))] [((ca 1 0), .int), ((ca 1 1), .int)] sz [.ref h, .int n]) (va_Qi (fun r (_ : Unit) => r = F_rule n) (fun _ _ => True) (va_A [(h, .inr (11, (o11 h g))), ((g 11 3), .inr (1, (o1 h g))), ((g 11 4), .inr (8, (o8 h g))), ((g 1 0), .inl ((ca 1 0), 8, .inl (fun _ => 0))), ((g 1 1), .inl ((ca 1 1), 8, .inl (fun _ => 0)))] sz)) 0 0 (va_A [(h, .inr (11, (o11 h g))), ((g 11 3), .inr (1, (o1 h g))), ((g 11 4), .inr (8, (o8 h g))), ((g 1 0), .inl ((ca 1 0), 8, .inl (fun _ => 0))), ((g 1 1), .inl ((ca 1 1), 8, .inl (fun _ => 0)))] sz) := by
  refine Met.ofW (cc := cX11_rule) (maxL := 3) (ret := (some .int)) (by decide) rfl ?_
  intro p e s m args below meth c s₁ B hml hv
  obtain ⟨rfl, hsz, hP, hK, hD0⟩ := hv
  have hx := B.exec
  have hb := B.bytes
  have hr := B.returns
  have ht := tb_tl (atoms_spec (ws := wc yX11_rule cX11_rule 3 (some .int)) B.pre)
  have hown : s.vm.findClass RX11 = some m.cls := findClass_of_methodNamed B.named
  have hlocks := B.notSynchronized
  subst hsz
  have hD := hD0.self (sz := s.heap.size)
  generalize hAe : va_A [(h, .inr (11, (o11 h g))), ((g 11 3), .inr (1, (o1 h g))), ((g 11 4), .inr (8, (o8 h g))), ((g 1 0), .inl ((ca 1 0), 8, .inl (fun _ => 0))), ((g 1 1), .inl ((ca 1 1), 8, .inl (fun _ => 0)))] s.heap.size = A at hD ⊢
  have hA : ∀ q : Nat, s.heap.size ≤ q → A q := fun q h => by rw [← hAe]; exact Or.inr h
  have hS : va_S A s.heap s.heap [] := va_S.rf
  have hP : va_P (dC, dI) classes [(h, .inr (11, (o11 h g))), ((g 11 3), .inr (1, (o1 h g))), ((g 11 4), .inr (8, (o8 h g))), ((g 1 0), .inl ((ca 1 0), 8, .inl (fun _ => 0))), ((g 1 1), .inl ((ca 1 1), 8, .inl (fun _ => 0)))] s.heap := hP
  have hl := lv_entry [.ref h, .int n] (n := 3) (Nat.le_of_ble_eq_true rfl)
  rw [lg_entry_eq]
  generalize (lg_sl [.ref h, .int n] ++ List.replicate (3 - (lg_sl [.ref h, .int n]).length) Slot.unset).toArray = ls at hl ⊢
  have hl : lv_has ls 3 [(0, .ref h), (1, .int n)] := hl
  refine lv_iload_n hx hb dX11_rule_0 rfl (lv_at hl 1 rfl) ?_
  refine lv_iconst (v := 0) hx hb dX11_rule_1 (by decide) ?_
  refine lv_sipush (v := 3000) hx hb dX11_rule_2 (by decide) ?_
  have hPc := hP.sub (ws' := []) [] rfl
  have hKc := hK.sub (tys' := []) [] rfl
  refine vp_callSi (W.runS (As := [.int n, .int 0, .int 3000]) (rest := []) ⟨hx, hb, hml, hown, ht⟩ (c_X11_within l dC dI n 0 3000 (n.toInt) (0) (3000) (rfl : (n).toInt = _) (by decide : (0 : Int32).toInt = 0) (by decide : (3000 : Int32).toInt = 3000)) (kS 3 ht m_453 m_454 m_77 m_455 rfl rfl hd_X11_within_v ⟨Nat.le_of_ble_eq_true rfl, Nat.le_of_ble_eq_true rfl⟩) (sR hPc hKc) rfl rfl hl.1 rfl (lv_room (Nat.le_of_ble_eq_true rfl)) dX11_rule_5 ⟨Nat.le_of_ble_eq_true rfl, Nat.le_of_ble_eq_true rfl⟩) (fun r1 hr1 => ?_)
  rcases hr1 with ⟨rfl, fr1⟩ | ⟨rfl, fr1⟩
  · skip
    refine lv_if_ne (tgt := 14) hx hb dX11_rule_8 (by decide) (fun c2 => ?_) (fun c2 => ?_)
    · skip
      refine lv_aload_n hx hb dX11_rule_14 rfl (lv_at hl 0 rfl) ?_
      refine va_get (D := (dC, dI)) (ci := 11) (v := .ref (g 11 3)) (C := RX11) (T := TX11) (N := 11) hx hb ht inX11 hown hK hP 0 rfl rfl 3 (by decide) (ht _ m_418) (fun _ h9 => h9) rfl dX11_rule_15 ?_
      refine va_get (D := (dC, dI)) (ci := 1) (v := .int 0) (C := RX1) (T := TX1) (N := 9) hx hb ht inX1 hown hK hP 1 rfl rfl 7 (by decide) (ht _ m_198) (fun _ h9 => h9) rfl dX11_rule_18 ?_
      refine lv_bipush (v := 8) hx hb dX11_rule_21 (by decide) ?_
      refine lv_icmp_lt (tgt := 29) hx hb dX11_rule_23 (by decide) (fun c3 => ?_) (fun c3 => ?_)
      · skip
        refine lv_aload_n hx hb dX11_rule_29 rfl (lv_at hl 0 rfl) ?_
        refine va_get (D := (dC, dI)) (ci := 11) (v := .ref (g 11 4)) (C := RX11) (T := TX11) (N := 11) hx hb ht inX11 hown hK hP 0 rfl rfl 4 (by decide) (ht _ m_419) (fun _ h9 => h9) rfl dX11_rule_30 ?_
        have hPc := hP.sub (ws' := [((g 11 4), .inr (8, (o8 h g))), ((g 11 3), .inr (1, (o1 h g)))]) [2, 1] rfl
        have hKc := hK.sub (tys' := []) [] rfl
        have hDc := hD.sub (ws' := [((g 11 4), .inr (8, (o8 h g))), ((g 11 3), .inr (1, (o1 h g)))]) [2, 1] (by decide) rfl
        have hFc := va_free (wc := [((g 11 4), .inr (8, (o8 h g))), ((g 11 3), .inr (1, (o1 h g)))]) hD hS hA [2, 1] rfl
        refine va_calli (va_runV (As := []) (rest := []) ⟨hx, hb, hml, hown, ht⟩ (c_X8_read l dC dI s.heap.size h g ca) (kV 0 ht m_680 m_681 m_682 m_82 m_683 rfl rfl hd_X8_read_v ⟨Nat.le_of_ble_eq_true rfl, Nat.le_of_ble_eq_true rfl⟩) (vW hPc hKc hDc (va_recv hKc hPc (ci := 8) (q0 := 0) rfl rfl)) rfl rfl hl.1 rfl (lv_room (Nat.le_of_ble_eq_true rfl)) dX11_rule_33 ⟨Nat.le_of_ble_eq_true rfl, Nat.le_of_ble_eq_true rfl⟩) hS (fun q _ h => hFc q h) hFc (fun r4 u t H1 locs ht9 hvm hr4 hB hz1 hk1 hS => ?_)
        obtain ⟨hP1, hD1⟩ := hB
        rw [ht9] at hP1
        obtain ⟨hP, hD⟩ := va_join (wr := [(h, .inr (11, (o11 h g))), ((g 1 0), .inl ((ca 1 0), 8, .inl (fun _ => 0))), ((g 1 1), .inl ((ca 1 1), 8, .inl (fun _ => 0)))]) (w1 := [((g 11 4), .inr (8, (o8 h g))), ((g 11 3), .inr (1, (o1 h g)))]) hP hD [2, 1] [0, 3, 4] rfl rfl (by decide) (by decide) hk1 hFc hP1 hD1
        generalize H1 = H at hP hS ⊢
        have hP : va_P (dC, dI) classes [(h, .inr (11, (o11 h g))), ((g 1 0), .inl ((ca 1 0), 8, .inl (fun _ => 0))), ((g 1 1), .inl ((ca 1 1), 8, .inl (fun _ => 0))), ((g 11 4), .inr (8, (o8 h g))), ((g 11 3), .inr (1, (o1 h g)))] H := hP
        have hD : va_D A [(h, .inr (11, (o11 h g))), ((g 1 0), .inl ((ca 1 0), 8, .inl (fun _ => 0))), ((g 1 1), .inl ((ca 1 1), 8, .inl (fun _ => 0))), ((g 11 4), .inr (8, (o8 h g))), ((g 11 3), .inr (1, (o1 h g)))] := hD
        obtain rfl : 0 = r4 := hr4.symm
        refine lv_istore_n (lv' := [(2, .int 0), (0, .ref h), (1, .int n)]) hx hb dX11_rule_36 rfl hl (by decide) rfl (fun ls hl => ?_)
        refine lv_iload_n hx hb dX11_rule_37 rfl (lv_at hl 0 rfl) ?_
        refine lv_if_ne (tgt := 52) hx hb dX11_rule_38 (by decide) (fun c5 => ?_) (fun c5 => ?_)
        · exact absurd rfl c5
        · skip
          refine lv_aload_n hx hb dX11_rule_41 rfl (lv_at hl 1 rfl) ?_
          refine va_get (D := (dC, dI)) (ci := 11) (v := .ref (g 11 3)) (C := RX11) (T := TX11) (N := 11) hx hb ht inX11 hown hK hP 0 rfl rfl 3 (by decide) (ht _ m_418) (fun _ h9 => h9) rfl dX11_rule_42 ?_
          refine lv_iload_n hx hb dX11_rule_45 rfl (lv_at hl 2 rfl) ?_
          have hPc := hP.sub (ws' := [((g 11 3), .inr (1, (o1 h g))), ((g 1 0), .inl ((ca 1 0), 8, .inl (fun _ => 0))), ((g 1 1), .inl ((ca 1 1), 8, .inl (fun _ => 0)))]) [4, 1, 2] rfl
          have hKc := hK.sub (tys' := [((ca 1 0), .int), ((ca 1 1), .int)]) [0, 1] rfl
          have hDc := hD.sub (ws' := [((g 11 3), .inr (1, (o1 h g))), ((g 1 0), .inl ((ca 1 0), 8, .inl (fun _ => 0))), ((g 1 1), .inl ((ca 1 1), 8, .inl (fun _ => 0)))]) [4, 1, 2] (by decide) rfl
          have hFc := va_free (wc := [((g 11 3), .inr (1, (o1 h g))), ((g 1 0), .inl ((ca 1 0), 8, .inl (fun _ => 0))), ((g 1 1), .inl ((ca 1 1), 8, .inl (fun _ => 0)))]) hD hS hA [4, 1, 2] rfl
          refine va_calli (va_runV (As := [.int n]) (rest := []) ⟨hx, hb, hml, hown, ht⟩ (c_X1_enact l dC dI H.size h g ca n) (kV 1 ht m_805 m_806 m_807 m_81 m_808 rfl rfl hd_X1_enact_v ⟨Nat.le_of_ble_eq_true rfl, Nat.le_of_ble_eq_true rfl⟩) (vW hPc hKc hDc (va_recv hKc hPc (ci := 1) (q0 := 0) rfl rfl)) rfl rfl hl.1 rfl (lv_room (Nat.le_of_ble_eq_true rfl)) dX11_rule_46 ⟨Nat.le_of_ble_eq_true rfl, Nat.le_of_ble_eq_true rfl⟩) hS (fun q _ h => hFc q h) hFc (fun r6 u t H1 locs ht9 hvm hr6 hB hz1 hk1 hS => ?_)
          have hP1 : va_P (dC, dI) classes [] H1 := noP
          have hD1 : va_D (va_A [((g 11 3), .inr (1, (o1 h g))), ((g 1 0), .inl ((ca 1 0), 8, .inl (fun _ => 0))), ((g 1 1), .inl ((ca 1 1), 8, .inl (fun _ => 0)))] H.size) [] := noD
          obtain ⟨hP, hD⟩ := va_join (wr := [(h, .inr (11, (o11 h g))), ((g 11 4), .inr (8, (o8 h g)))]) (w1 := []) hP hD [4, 1, 2] [0, 3] rfl rfl (by decide) (by decide) hk1 hFc hP1 hD1
          generalize H1 = H at hP hS ⊢
          have hP : va_P (dC, dI) classes [(h, .inr (11, (o11 h g))), ((g 11 4), .inr (8, (o8 h g)))] H := hP
          have hD : va_D A [(h, .inr (11, (o11 h g))), ((g 11 4), .inr (8, (o8 h g)))] := hD
          obtain rfl : 0 = r6 := hr6.symm
          refine lv_goto (tgt := 56) hx hb dX11_rule_49 (by decide) ?_
          exact W.iret (v := 0) hx hb hr (fun t ht9 hW => ⟨⟨0, (), rfl, (by unfold F_rule; first | decide | ((repeat' split) <;> first | rfl | (exfalso; omega) | exact z_of (by decide) (by omega))), trivial⟩, hS.F ht9⟩) hS.2.2 dX11_rule_56
      · exact absurd c3 (by decide)
    · exact absurd c2 (by decide)
  · skip
    refine lv_if_ne (tgt := 14) hx hb dX11_rule_8 (by decide) (fun c7 => ?_) (fun c7 => ?_)
    · exact absurd rfl c7
    · skip
      refine lv_ldc hx hb hown (ht _ m_456) dX11_rule_11 ?_
      exact W.iret (v := (-100002)) hx hb hr (fun t ht9 hW => ⟨⟨(-100002), (), rfl, (by unfold F_rule; first | decide | ((repeat' split) <;> first | rfl | (exfalso; omega) | exact z_of (by decide) (by omega))), trivial⟩, hS.F ht9⟩) hS.2.2 dX11_rule_13
set_option maxHeartbeats 4000000 in
set_option maxRecDepth 100000 in
/-- X11_fault -/
theorem c_X11_fault (l : Launch) (dC : Nat → ClassId) (dI : Nat → Nat → Nat) (h : Nat) (g : Nat → Nat → Nat) (ca : Nat → Nat → ClassId) : Met l yX11_fault (wc yX11_fault cX11_fault 1 (some .int)) ({ frames := 0, cells := 0, slots := 0, locals := 0 } : Room) (pR (dC, dI) classes [(h, .inr (11, (o11 h g))), ((g 11 4), .inr (8, (o8 h g)))] [] [.ref h]) (vp_Si (fun r => r = -1)) 0 0 (fun _ => False) := by
  refine Met.ofW (cc := cX11_fault) (maxL := 1) (ret := (some .int)) (by decide) rfl ?_
  intro p e s m args below meth c s₁ B hml hv
  obtain ⟨rfl, hP, hK⟩ := hv
  have hx := B.exec
  have hb := B.bytes
  have hr := B.returns
  have ht := tb_tl (atoms_spec (ws := wc yX11_fault cX11_fault 1 (some .int)) B.pre)
  have hown : s.vm.findClass RX11 = some m.cls := findClass_of_methodNamed B.named
  have hlocks := B.notSynchronized
  have hl := lv_entry [.ref h] (n := 1) (Nat.le_of_ble_eq_true rfl)
  rw [lg_entry_eq]
  generalize (lg_sl [.ref h] ++ List.replicate (1 - (lg_sl [.ref h]).length) Slot.unset).toArray = ls at hl ⊢
  have hl : lv_has ls 1 [(0, .ref h)] := hl
  refine lv_aload_n hx hb dX11_fault_0 rfl (lv_at hl 0 rfl) ?_
  refine va_get (D := (dC, dI)) (ci := 11) (v := .ref (g 11 4)) (C := RX11) (T := TX11) (N := 11) hx hb ht inX11 hown hK hP 0 rfl rfl 4 (by decide) (ht _ m_419) (fun _ h9 => h9) rfl dX11_fault_1 ?_
  refine va_get (D := (dC, dI)) (ci := 8) (v := .int (-1)) (C := RX8) (T := TX8) (N := 6) hx hb ht inX8 hown hK hP 1 rfl rfl 3 (by decide) (ht _ m_233) (fun _ h9 => h9) rfl dX11_fault_4 ?_
  exact W.iret (v := (-1)) hx hb hr (fun t ht9 hW => ⟨(-1), rfl, rfl, ht9⟩) (fun q hq => by cases hq) dX11_fault_7
