set_option maxHeartbeats 4000000 in
set_option maxRecDepth 100000 in
/-- X12_burnt -/
theorem c_X12_burnt (l : Launch) (dC : Nat → ClassId) (dI : Nat → Nat → Nat) (h : Nat) (g : Nat → Nat → Nat) (ca : Nat → Nat → ClassId) (a0 : Int32) (a1 : Int32) (a2 : Int32) (a3 : Int32) : Met l yX12_burnt (wc yX12_burnt cX12_burnt 5 (some .int)) ({ frames := 2, cells := 0, slots := 0, locals := 46 } : Room) (pR (dC, dI) classes [(h, .inr (12, (o12 h g)))] [] [.ref h, .int a0, .int a1, .int a2, .int a3]) (vp_Si (fun r => r = -100001)) 0 0 (fun _ => False) := by
  refine Met.ofW (cc := cX12_burnt) (maxL := 5) (ret := (some .int)) (by decide) rfl ?_
  intro p e s m args below meth c s₁ B hml hv
  obtain ⟨rfl, hP, hK⟩ := hv
  have hx := B.exec
  have hb := B.bytes
  have hr := B.returns
  have ht := tb_tl (atoms_spec (ws := wc yX12_burnt cX12_burnt 5 (some .int)) B.pre)
  have hown : s.vm.findClass RX12 = some m.cls := findClass_of_methodNamed B.named
  have hlocks := B.notSynchronized
  have hl := lv_entry [.ref h, .int a0, .int a1, .int a2, .int a3] (n := 5) (Nat.le_of_ble_eq_true rfl)
  rw [lg_entry_eq]
  generalize (lg_sl [.ref h, .int a0, .int a1, .int a2, .int a3] ++ List.replicate (5 - (lg_sl [.ref h, .int a0, .int a1, .int a2, .int a3]).length) Slot.unset).toArray = ls at hl ⊢
  have hl : lv_has ls 5 [(0, .ref h), (1, .int a0), (2, .int a1), (3, .int a2), (4, .int a3)] := hl
  refine lv_aload_n hx hb dX12_burnt_0 rfl (lv_at hl 0 rfl) ?_
  refine lv_iload_n hx hb dX12_burnt_1 rfl (lv_at hl 1 rfl) ?_
  have hPc := hP.sub (ws' := [(h, .inr (12, (o12 h g)))]) [0] rfl
  have hKc := hK.sub (tys' := []) [] rfl
  refine vp_callSi (W.runV (As := [.int a0]) (rest := []) ⟨hx, hb, hml, hown, ht⟩ (c_X12_noBale l dC dI h g ca a0) (kV 1 ht m_1385 m_1387 m_42 m_89 m_1388 rfl rfl hd_X12_noBale_v ⟨Nat.le_of_ble_eq_true rfl, Nat.le_of_ble_eq_true rfl⟩) (vR hPc hKc (va_recv hKc hPc (ci := 12) (q0 := 0) rfl rfl)) rfl rfl hl.1 rfl (lv_room (Nat.le_of_ble_eq_true rfl)) dX12_burnt_2 ⟨Nat.le_of_ble_eq_true rfl, Nat.le_of_ble_eq_true rfl⟩) (fun r1 hr1 => ?_)
  obtain rfl : 1 = r1 := hr1.symm
  refine lv_if_eq (tgt := 11) hx hb dX12_burnt_5 (by decide) (fun c2 => ?_) (fun c2 => ?_)
  · exact absurd c2 (by decide)
  · skip
    refine lv_ldc hx hb hown (ht _ m_1389) dX12_burnt_8 ?_
    exact W.iret (v := (-100001)) hx hb hr (fun t ht9 hW => ⟨(-100001), rfl, rfl, ht9⟩) (fun q hq => by cases hq) dX12_burnt_10
set_option maxHeartbeats 4000000 in
set_option maxRecDepth 100000 in
/-- X12_cheat -/
theorem c_X12_cheat (l : Launch) (dC : Nat → ClassId) (dI : Nat → Nat → Nat) (h : Nat) (g : Nat → Nat → Nat) (ca : Nat → Nat → ClassId) (a0 : Int32) (a1 : Int32) (a2 : Int32) (a3 : Int32) : Met l yX12_cheat (wc yX12_cheat cX12_cheat 7 (some .int)) ({ frames := 2, cells := 0, slots := 0, locals := 46 } : Room) (pR (dC, dI) classes [(h, .inr (12, (o12 h g)))] [] [.ref h, .int a0, .int a1, .int a2, .int a3]) (vp_Si (fun r => r = -100001)) 0 0 (fun _ => False) := by
  refine Met.ofW (cc := cX12_cheat) (maxL := 7) (ret := (some .int)) (by decide) rfl ?_
  intro p e s m args below meth c s₁ B hml hv
  obtain ⟨rfl, hP, hK⟩ := hv
  have hx := B.exec
  have hb := B.bytes
  have hr := B.returns
  have ht := tb_tl (atoms_spec (ws := wc yX12_cheat cX12_cheat 7 (some .int)) B.pre)
  have hown : s.vm.findClass RX12 = some m.cls := findClass_of_methodNamed B.named
  have hlocks := B.notSynchronized
  have hl := lv_entry [.ref h, .int a0, .int a1, .int a2, .int a3] (n := 7) (Nat.le_of_ble_eq_true rfl)
  rw [lg_entry_eq]
  generalize (lg_sl [.ref h, .int a0, .int a1, .int a2, .int a3] ++ List.replicate (7 - (lg_sl [.ref h, .int a0, .int a1, .int a2, .int a3]).length) Slot.unset).toArray = ls at hl ⊢
  have hl : lv_has ls 7 [(0, .ref h), (1, .int a0), (2, .int a1), (3, .int a2), (4, .int a3)] := hl
  refine lv_aload_n hx hb dX12_cheat_0 rfl (lv_at hl 0 rfl) ?_
  refine lv_iload_n hx hb dX12_cheat_1 rfl (lv_at hl 1 rfl) ?_
  have hPc := hP.sub (ws' := [(h, .inr (12, (o12 h g)))]) [0] rfl
  have hKc := hK.sub (tys' := []) [] rfl
  refine vp_callSi (W.runV (As := [.int a0]) (rest := []) ⟨hx, hb, hml, hown, ht⟩ (c_X12_noBale l dC dI h g ca a0) (kV 1 ht m_1385 m_1387 m_42 m_89 m_1388 rfl rfl hd_X12_noBale_v ⟨Nat.le_of_ble_eq_true rfl, Nat.le_of_ble_eq_true rfl⟩) (vR hPc hKc (va_recv hKc hPc (ci := 12) (q0 := 0) rfl rfl)) rfl rfl hl.1 rfl (lv_room (Nat.le_of_ble_eq_true rfl)) dX12_cheat_2 ⟨Nat.le_of_ble_eq_true rfl, Nat.le_of_ble_eq_true rfl⟩) (fun r1 hr1 => ?_)
  obtain rfl : 1 = r1 := hr1.symm
  refine lv_if_eq (tgt := 11) hx hb dX12_cheat_5 (by decide) (fun c2 => ?_) (fun c2 => ?_)
  · exact absurd c2 (by decide)
  · skip
    refine lv_ldc hx hb hown (ht _ m_1389) dX12_cheat_8 ?_
    exact W.iret (v := (-100001)) hx hb hr (fun t ht9 hW => ⟨(-100001), rfl, rfl, ht9⟩) (fun q hq => by cases hq) dX12_cheat_10
set_option maxHeartbeats 4000000 in
set_option maxRecDepth 100000 in
/-- X12_certify -/
theorem c_X12_certify (l : Launch) (dC : Nat → ClassId) (dI : Nat → Nat → Nat) (h : Nat) (g : Nat → Nat → Nat) (ca : Nat → Nat → ClassId) (a0 : Int32) : Met l yX12_certify (wc yX12_certify cX12_certify 4 (some .int)) ({ frames := 2, cells := 0, slots := 0, locals := 46 } : Room) (pR (dC, dI) classes [(h, .inr (12, (o12 h g)))] [] [.ref h, .int a0]) (vp_Si (fun r => r = -100001)) 0 0 (fun _ => False) := by
  refine Met.ofW (cc := cX12_certify) (maxL := 4) (ret := (some .int)) (by decide) rfl ?_
  intro p e s m args below meth c s₁ B hml hv
  obtain ⟨rfl, hP, hK⟩ := hv
  have hx := B.exec
  have hb := B.bytes
  have hr := B.returns
  have ht := tb_tl (atoms_spec (ws := wc yX12_certify cX12_certify 4 (some .int)) B.pre)
  have hown : s.vm.findClass RX12 = some m.cls := findClass_of_methodNamed B.named
  have hlocks := B.notSynchronized
  have hl := lv_entry [.ref h, .int a0] (n := 4) (Nat.le_of_ble_eq_true rfl)
  rw [lg_entry_eq]
  generalize (lg_sl [.ref h, .int a0] ++ List.replicate (4 - (lg_sl [.ref h, .int a0]).length) Slot.unset).toArray = ls at hl ⊢
  have hl : lv_has ls 4 [(0, .ref h), (1, .int a0)] := hl
  refine lv_aload_n hx hb dX12_certify_0 rfl (lv_at hl 0 rfl) ?_
  refine lv_iload_n hx hb dX12_certify_1 rfl (lv_at hl 1 rfl) ?_
  have hPc := hP.sub (ws' := [(h, .inr (12, (o12 h g)))]) [0] rfl
  have hKc := hK.sub (tys' := []) [] rfl
  refine vp_callSi (W.runV (As := [.int a0]) (rest := []) ⟨hx, hb, hml, hown, ht⟩ (c_X12_noBale l dC dI h g ca a0) (kV 1 ht m_1385 m_1387 m_42 m_89 m_1388 rfl rfl hd_X12_noBale_v ⟨Nat.le_of_ble_eq_true rfl, Nat.le_of_ble_eq_true rfl⟩) (vR hPc hKc (va_recv hKc hPc (ci := 12) (q0 := 0) rfl rfl)) rfl rfl hl.1 rfl (lv_room (Nat.le_of_ble_eq_true rfl)) dX12_certify_2 ⟨Nat.le_of_ble_eq_true rfl, Nat.le_of_ble_eq_true rfl⟩) (fun r1 hr1 => ?_)
  obtain rfl : 1 = r1 := hr1.symm
  refine lv_if_eq (tgt := 11) hx hb dX12_certify_5 (by decide) (fun c2 => ?_) (fun c2 => ?_)
  · exact absurd c2 (by decide)
  · skip
    refine lv_ldc hx hb hown (ht _ m_1389) dX12_certify_8 ?_
    exact W.iret (v := (-100001)) hx hb hr (fun t ht9 hW => ⟨(-100001), rfl, rfl, ht9⟩) (fun q hq => by cases hq) dX12_certify_10
set_option maxHeartbeats 4000000 in
set_option maxRecDepth 100000 in
/-- X12_lose -/
theorem c_X12_lose (l : Launch) (dC : Nat → ClassId) (dI : Nat → Nat → Nat) (h : Nat) (g : Nat → Nat → Nat) (ca : Nat → Nat → ClassId) (a0 : Int32) : Met l yX12_lose (wc yX12_lose cX12_lose 2 (some .int)) ({ frames := 2, cells := 0, slots := 0, locals := 46 } : Room) (pR (dC, dI) classes [(h, .inr (12, (o12 h g)))] [] [.ref h, .int a0]) (vp_Si (fun r => r = -100001)) 0 0 (fun _ => False) := by
  refine Met.ofW (cc := cX12_lose) (maxL := 2) (ret := (some .int)) (by decide) rfl ?_
  intro p e s m args below meth c s₁ B hml hv
  obtain ⟨rfl, hP, hK⟩ := hv
  have hx := B.exec
  have hb := B.bytes
  have hr := B.returns
  have ht := tb_tl (atoms_spec (ws := wc yX12_lose cX12_lose 2 (some .int)) B.pre)
  have hown : s.vm.findClass RX12 = some m.cls := findClass_of_methodNamed B.named
  have hlocks := B.notSynchronized
  have hl := lv_entry [.ref h, .int a0] (n := 2) (Nat.le_of_ble_eq_true rfl)
  rw [lg_entry_eq]
  generalize (lg_sl [.ref h, .int a0] ++ List.replicate (2 - (lg_sl [.ref h, .int a0]).length) Slot.unset).toArray = ls at hl ⊢
  have hl : lv_has ls 2 [(0, .ref h), (1, .int a0)] := hl
  refine lv_aload_n hx hb dX12_lose_0 rfl (lv_at hl 0 rfl) ?_
  refine lv_iload_n hx hb dX12_lose_1 rfl (lv_at hl 1 rfl) ?_
  have hPc := hP.sub (ws' := [(h, .inr (12, (o12 h g)))]) [0] rfl
  have hKc := hK.sub (tys' := []) [] rfl
  refine vp_callSi (W.runV (As := [.int a0]) (rest := []) ⟨hx, hb, hml, hown, ht⟩ (c_X12_noSkein l dC dI h g ca a0) (kV 1 ht m_1403 m_1405 m_43 m_89 m_1406 rfl rfl hd_X12_noSkein_v ⟨Nat.le_of_ble_eq_true rfl, Nat.le_of_ble_eq_true rfl⟩) (vR hPc hKc (va_recv hKc hPc (ci := 12) (q0 := 0) rfl rfl)) rfl rfl hl.1 rfl (lv_room (Nat.le_of_ble_eq_true rfl)) dX12_lose_2 ⟨Nat.le_of_ble_eq_true rfl, Nat.le_of_ble_eq_true rfl⟩) (fun r1 hr1 => ?_)
  obtain rfl : 1 = r1 := hr1.symm
  refine lv_if_eq (tgt := 11) hx hb dX12_lose_5 (by decide) (fun c2 => ?_) (fun c2 => ?_)
  · exact absurd c2 (by decide)
  · skip
    refine lv_ldc hx hb hown (ht _ m_1389) dX12_lose_8 ?_
    exact W.iret (v := (-100001)) hx hb hr (fun t ht9 hW => ⟨(-100001), rfl, rfl, ht9⟩) (fun q hq => by cases hq) dX12_lose_10
set_option maxHeartbeats 4000000 in
set_option maxRecDepth 100000 in
/-- X12_told -/
theorem c_X12_told (l : Launch) (dC : Nat → ClassId) (dI : Nat → Nat → Nat) (h : Nat) (g : Nat → Nat → Nat) (ca : Nat → Nat → ClassId) (a0 : Int32) (a1 : Int32) : Met l yX12_told (wc yX12_told cX12_told 3 (some .int)) ({ frames := 2, cells := 0, slots := 0, locals := 46 } : Room) (pR (dC, dI) classes [(h, .inr (12, (o12 h g)))] [] [.ref h, .int a0, .int a1]) (vp_Si (fun r => r = -100001)) 0 0 (fun _ => False) := by
  refine Met.ofW (cc := cX12_told) (maxL := 3) (ret := (some .int)) (by decide) rfl ?_
  intro p e s m args below meth c s₁ B hml hv
  obtain ⟨rfl, hP, hK⟩ := hv
  have hx := B.exec
  have hb := B.bytes
  have hr := B.returns
  have ht := tb_tl (atoms_spec (ws := wc yX12_told cX12_told 3 (some .int)) B.pre)
  have hown : s.vm.findClass RX12 = some m.cls := findClass_of_methodNamed B.named
  have hlocks := B.notSynchronized
  have hl := lv_entry [.ref h, .int a0, .int a1] (n := 3) (Nat.le_of_ble_eq_true rfl)
  rw [lg_entry_eq]
  generalize (lg_sl [.ref h, .int a0, .int a1] ++ List.replicate (3 - (lg_sl [.ref h, .int a0, .int a1]).length) Slot.unset).toArray = ls at hl ⊢
  have hl : lv_has ls 3 [(0, .ref h), (1, .int a0), (2, .int a1)] := hl
  refine lv_aload_n hx hb dX12_told_0 rfl (lv_at hl 0 rfl) ?_
  refine lv_iload_n hx hb dX12_told_1 rfl (lv_at hl 1 rfl) ?_
  have hPc := hP.sub (ws' := [(h, .inr (12, (o12 h g)))]) [0] rfl
  have hKc := hK.sub (tys' := []) [] rfl
  refine vp_callSi (W.runV (As := [.int a0]) (rest := []) ⟨hx, hb, hml, hown, ht⟩ (c_X12_noSkein l dC dI h g ca a0) (kV 1 ht m_1403 m_1405 m_43 m_89 m_1406 rfl rfl hd_X12_noSkein_v ⟨Nat.le_of_ble_eq_true rfl, Nat.le_of_ble_eq_true rfl⟩) (vR hPc hKc (va_recv hKc hPc (ci := 12) (q0 := 0) rfl rfl)) rfl rfl hl.1 rfl (lv_room (Nat.le_of_ble_eq_true rfl)) dX12_told_2 ⟨Nat.le_of_ble_eq_true rfl, Nat.le_of_ble_eq_true rfl⟩) (fun r1 hr1 => ?_)
  obtain rfl : 1 = r1 := hr1.symm
  refine lv_if_eq (tgt := 11) hx hb dX12_told_5 (by decide) (fun c2 => ?_) (fun c2 => ?_)
  · exact absurd c2 (by decide)
  · skip
    refine lv_ldc hx hb hown (ht _ m_1389) dX12_told_8 ?_
    exact W.iret (v := (-100001)) hx hb hr (fun t ht9 hW => ⟨(-100001), rfl, rfl, ht9⟩) (fun q hq => by cases hq) dX12_told_10
set_option maxHeartbeats 4000000 in
set_option maxRecDepth 100000 in
/-- X12_letter -/
theorem c_X12_letter (l : Launch) (dC : Nat → ClassId) (dI : Nat → Nat → Nat) (h : Nat) (g : Nat → Nat → Nat) (ca : Nat → Nat → ClassId) (a0 : Int32) (a1 : Int32) : Met l yX12_letter (wc yX12_letter cX12_letter 4 (some .int)) ({ frames := 0, cells := 0, slots := 0, locals := 0 } : Room) (pR (dC, dI) classes [(h, .inr (12, (o12 h g)))] [] [.ref h, .int a0, .int a1]) (vp_Si (fun r => r = -100001)) 0 0 (fun _ => False) := by
  refine Met.ofW (cc := cX12_letter) (maxL := 4) (ret := (some .int)) (by decide) rfl ?_
  intro p e s m args below meth c s₁ B hml hv
  obtain ⟨rfl, hP, hK⟩ := hv
  have hx := B.exec
  have hb := B.bytes
  have hr := B.returns
  have ht := tb_tl (atoms_spec (ws := wc yX12_letter cX12_letter 4 (some .int)) B.pre)
  have hown : s.vm.findClass RX12 = some m.cls := findClass_of_methodNamed B.named
  have hlocks := B.notSynchronized
  have hl := lv_entry [.ref h, .int a0, .int a1] (n := 4) (Nat.le_of_ble_eq_true rfl)
  rw [lg_entry_eq]
  generalize (lg_sl [.ref h, .int a0, .int a1] ++ List.replicate (4 - (lg_sl [.ref h, .int a0, .int a1]).length) Slot.unset).toArray = ls at hl ⊢
  have hl : lv_has ls 4 [(0, .ref h), (1, .int a0), (2, .int a1)] := hl
  refine lv_iload_n hx hb dX12_letter_0 rfl (lv_at hl 1 rfl) ?_
  refine lv_if_lt (tgt := 31) hx hb dX12_letter_1 (by decide) (fun c1 => ?_) (fun c1 => ?_)
  · have fc1 := z_lt (rfl : (a0).toInt = _) (by decide : (0 : Int32).toInt = 0) c1
    refine lv_ldc hx hb hown (ht _ m_1389) dX12_letter_31 ?_
    exact W.iret (v := (-100001)) hx hb hr (fun t ht9 hW => ⟨(-100001), rfl, rfl, ht9⟩) (fun q hq => by cases hq) dX12_letter_33
  · have fc1 := z_nlt (rfl : (a0).toInt = _) (by decide : (0 : Int32).toInt = 0) c1
    refine lv_iload_n hx hb dX12_letter_4 rfl (lv_at hl 1 rfl) ?_
    refine lv_bipush (v := 100) hx hb dX12_letter_5 (by decide) ?_
    refine lv_idiv hx hb dX12_letter_7 (by decide) ?_
    refine lv_topi (fun v2 ev2 => ?_)
    have tv2 := z_div100 ev2 (by omega)
    refine lv_aload_n hx hb dX12_letter_8 rfl (lv_at hl 0 rfl) ?_
    refine va_get (D := (dC, dI)) (ci := 12) (v := .int 0) (C := RX12) (T := TX12) (N := 75) hx hb ht inX12 hown hK hP 0 rfl rfl 23 (by decide) (ht _ m_1162) (fun _ h9 => h9) rfl dX12_letter_9 ?_
    refine lv_icmp_ge (tgt := 31) hx hb dX12_letter_12 (by decide) (fun c3 => ?_) (fun c3 => ?_)
    · skip
      refine lv_ldc hx hb hown (ht _ m_1389) dX12_letter_31 ?_
      exact W.iret (v := (-100001)) hx hb hr (fun t ht9 hW => ⟨(-100001), rfl, rfl, ht9⟩) (fun q hq => by cases hq) dX12_letter_33
    · have fc3 := z_nle (by decide : (0 : Int32).toInt = 0) (rfl : (v2).toInt = _) c3; exfalso; omega
set_option maxHeartbeats 4000000 in
set_option maxRecDepth 100000 in
/-- X12_bill -/
theorem c_X12_bill (l : Launch) (dC : Nat → ClassId) (dI : Nat → Nat → Nat) (h : Nat) (g : Nat → Nat → Nat) (ca : Nat → Nat → ClassId) (a0 : Int32) (a1 : Int32) : Met l yX12_bill (wc yX12_bill cX12_bill 3 (some .int)) ({ frames := 2, cells := 0, slots := 0, locals := 46 } : Room) (pR (dC, dI) classes [(h, .inr (12, (o12 h g)))] [] [.ref h, .int a0, .int a1]) (vp_Si (fun r => r = -100001)) 0 0 (fun _ => False) := by
  refine Met.ofW (cc := cX12_bill) (maxL := 3) (ret := (some .int)) (by decide) rfl ?_
  intro p e s m args below meth c s₁ B hml hv
  obtain ⟨rfl, hP, hK⟩ := hv
  have hx := B.exec
  have hb := B.bytes
  have hr := B.returns
  have ht := tb_tl (atoms_spec (ws := wc yX12_bill cX12_bill 3 (some .int)) B.pre)
  have hown : s.vm.findClass RX12 = some m.cls := findClass_of_methodNamed B.named
  have hlocks := B.notSynchronized
  have hl := lv_entry [.ref h, .int a0, .int a1] (n := 3) (Nat.le_of_ble_eq_true rfl)
  rw [lg_entry_eq]
  generalize (lg_sl [.ref h, .int a0, .int a1] ++ List.replicate (3 - (lg_sl [.ref h, .int a0, .int a1]).length) Slot.unset).toArray = ls at hl ⊢
  have hl : lv_has ls 3 [(0, .ref h), (1, .int a0), (2, .int a1)] := hl
  refine lv_aload_n hx hb dX12_bill_0 rfl (lv_at hl 0 rfl) ?_
  refine lv_iload_n hx hb dX12_bill_1 rfl (lv_at hl 1 rfl) ?_
  have hPc := hP.sub (ws' := [(h, .inr (12, (o12 h g)))]) [0] rfl
  have hKc := hK.sub (tys' := []) [] rfl
  refine vp_callSi (W.runV (As := [.int a0]) (rest := []) ⟨hx, hb, hml, hown, ht⟩ (c_X12_noPaper l dC dI h g ca a0) (kV 1 ht m_1684 m_1686 m_73 m_89 m_1687 rfl rfl hd_X12_noPaper_v ⟨Nat.le_of_ble_eq_true rfl, Nat.le_of_ble_eq_true rfl⟩) (vR hPc hKc (va_recv hKc hPc (ci := 12) (q0 := 0) rfl rfl)) rfl rfl hl.1 rfl (lv_room (Nat.le_of_ble_eq_true rfl)) dX12_bill_2 ⟨Nat.le_of_ble_eq_true rfl, Nat.le_of_ble_eq_true rfl⟩) (fun r1 hr1 => ?_)
  obtain rfl : 1 = r1 := hr1.symm
  refine lv_if_eq (tgt := 11) hx hb dX12_bill_5 (by decide) (fun c2 => ?_) (fun c2 => ?_)
  · exact absurd c2 (by decide)
  · skip
    refine lv_ldc hx hb hown (ht _ m_1389) dX12_bill_8 ?_
    exact W.iret (v := (-100001)) hx hb hr (fun t ht9 hW => ⟨(-100001), rfl, rfl, ht9⟩) (fun q hq => by cases hq) dX12_bill_10
set_option maxHeartbeats 4000000 in
set_option maxRecDepth 100000 in
/-- X12_cut -/
theorem c_X12_cut (l : Launch) (dC : Nat → ClassId) (dI : Nat → Nat → Nat) (h : Nat) (g : Nat → Nat → Nat) (ca : Nat → Nat → ClassId) (a0 : Int32) (a1 : Int32) (a2 : Int32) : Met l yX12_cut (wc yX12_cut cX12_cut 6 (some .int)) ({ frames := 2, cells := 0, slots := 0, locals := 46 } : Room) (pR (dC, dI) classes [(h, .inr (12, (o12 h g)))] [] [.ref h, .int a0, .int a1, .int a2]) (vp_Si (fun r => r = -100001)) 0 0 (fun _ => False) := by
  refine Met.ofW (cc := cX12_cut) (maxL := 6) (ret := (some .int)) (by decide) rfl ?_
  intro p e s m args below meth c s₁ B hml hv
  obtain ⟨rfl, hP, hK⟩ := hv
  have hx := B.exec
  have hb := B.bytes
  have hr := B.returns
  have ht := tb_tl (atoms_spec (ws := wc yX12_cut cX12_cut 6 (some .int)) B.pre)
  have hown : s.vm.findClass RX12 = some m.cls := findClass_of_methodNamed B.named
  have hlocks := B.notSynchronized
  have hl := lv_entry [.ref h, .int a0, .int a1, .int a2] (n := 6) (Nat.le_of_ble_eq_true rfl)
  rw [lg_entry_eq]
  generalize (lg_sl [.ref h, .int a0, .int a1, .int a2] ++ List.replicate (6 - (lg_sl [.ref h, .int a0, .int a1, .int a2]).length) Slot.unset).toArray = ls at hl ⊢
  have hl : lv_has ls 6 [(0, .ref h), (1, .int a0), (2, .int a1), (3, .int a2)] := hl
  refine lv_aload_n hx hb dX12_cut_0 rfl (lv_at hl 0 rfl) ?_
  refine lv_iload_n hx hb dX12_cut_1 rfl (lv_at hl 1 rfl) ?_
  have hPc := hP.sub (ws' := [(h, .inr (12, (o12 h g)))]) [0] rfl
  have hKc := hK.sub (tys' := []) [] rfl
  refine vp_callSi (W.runV (As := [.int a0]) (rest := []) ⟨hx, hb, hml, hown, ht⟩ (c_X12_noPaper l dC dI h g ca a0) (kV 1 ht m_1684 m_1686 m_73 m_89 m_1687 rfl rfl hd_X12_noPaper_v ⟨Nat.le_of_ble_eq_true rfl, Nat.le_of_ble_eq_true rfl⟩) (vR hPc hKc (va_recv hKc hPc (ci := 12) (q0 := 0) rfl rfl)) rfl rfl hl.1 rfl (lv_room (Nat.le_of_ble_eq_true rfl)) dX12_cut_2 ⟨Nat.le_of_ble_eq_true rfl, Nat.le_of_ble_eq_true rfl⟩) (fun r1 hr1 => ?_)
  obtain rfl : 1 = r1 := hr1.symm
  refine lv_if_eq (tgt := 11) hx hb dX12_cut_5 (by decide) (fun c2 => ?_) (fun c2 => ?_)
  · exact absurd c2 (by decide)
  · skip
    refine lv_ldc hx hb hown (ht _ m_1389) dX12_cut_8 ?_
    exact W.iret (v := (-100001)) hx hb hr (fun t ht9 hW => ⟨(-100001), rfl, rfl, ht9⟩) (fun q hq => by cases hq) dX12_cut_10
set_option maxHeartbeats 4000000 in
set_option maxRecDepth 100000 in
/-- X12_undo -/
theorem c_X12_undo (l : Launch) (dC : Nat → ClassId) (dI : Nat → Nat → Nat) (h : Nat) (g : Nat → Nat → Nat) (ca : Nat → Nat → ClassId) (a0 : Int32) : Met l yX12_undo (wc yX12_undo cX12_undo 6 (some .int)) ({ frames := 2, cells := 0, slots := 0, locals := 46 } : Room) (pR (dC, dI) classes [(h, .inr (12, (o12 h g)))] [] [.ref h, .int a0]) (vp_Si (fun r => r = -100001)) 0 0 (fun _ => False) := by
  refine Met.ofW (cc := cX12_undo) (maxL := 6) (ret := (some .int)) (by decide) rfl ?_
  intro p e s m args below meth c s₁ B hml hv
  obtain ⟨rfl, hP, hK⟩ := hv
  have hx := B.exec
  have hb := B.bytes
  have hr := B.returns
  have ht := tb_tl (atoms_spec (ws := wc yX12_undo cX12_undo 6 (some .int)) B.pre)
  have hown : s.vm.findClass RX12 = some m.cls := findClass_of_methodNamed B.named
  have hlocks := B.notSynchronized
  have hl := lv_entry [.ref h, .int a0] (n := 6) (Nat.le_of_ble_eq_true rfl)
  rw [lg_entry_eq]
  generalize (lg_sl [.ref h, .int a0] ++ List.replicate (6 - (lg_sl [.ref h, .int a0]).length) Slot.unset).toArray = ls at hl ⊢
  have hl : lv_has ls 6 [(0, .ref h), (1, .int a0)] := hl
  refine lv_aload_n hx hb dX12_undo_0 rfl (lv_at hl 0 rfl) ?_
  refine lv_iload_n hx hb dX12_undo_1 rfl (lv_at hl 1 rfl) ?_
  have hPc := hP.sub (ws' := [(h, .inr (12, (o12 h g)))]) [0] rfl
  have hKc := hK.sub (tys' := []) [] rfl
  refine vp_callSi (W.runV (As := [.int a0]) (rest := []) ⟨hx, hb, hml, hown, ht⟩ (c_X12_noPaper l dC dI h g ca a0) (kV 1 ht m_1684 m_1686 m_73 m_89 m_1687 rfl rfl hd_X12_noPaper_v ⟨Nat.le_of_ble_eq_true rfl, Nat.le_of_ble_eq_true rfl⟩) (vR hPc hKc (va_recv hKc hPc (ci := 12) (q0 := 0) rfl rfl)) rfl rfl hl.1 rfl (lv_room (Nat.le_of_ble_eq_true rfl)) dX12_undo_2 ⟨Nat.le_of_ble_eq_true rfl, Nat.le_of_ble_eq_true rfl⟩) (fun r1 hr1 => ?_)
  obtain rfl : 1 = r1 := hr1.symm
  refine lv_if_eq (tgt := 11) hx hb dX12_undo_5 (by decide) (fun c2 => ?_) (fun c2 => ?_)
  · exact absurd c2 (by decide)
  · skip
    refine lv_ldc hx hb hown (ht _ m_1389) dX12_undo_8 ?_
    exact W.iret (v := (-100001)) hx hb hr (fun t ht9 hW => ⟨(-100001), rfl, rfl, ht9⟩) (fun q hq => by cases hq) dX12_undo_10
set_option maxHeartbeats 4000000 in
set_option maxRecDepth 100000 in
/-- X12_paper -/
theorem c_X12_paper (l : Launch) (dC : Nat → ClassId) (dI : Nat → Nat → Nat) (h : Nat) (g : Nat → Nat → Nat) (ca : Nat → Nat → ClassId) (a0 : Int32) (a1 : Int32) : Met l yX12_paper (wc yX12_paper cX12_paper 5 (some .int)) ({ frames := 2, cells := 0, slots := 0, locals := 46 } : Room) (pR (dC, dI) classes [(h, .inr (12, (o12 h g)))] [] [.ref h, .int a0, .int a1]) (vp_Si (fun r => r = -100001)) 0 0 (fun _ => False) := by
  refine Met.ofW (cc := cX12_paper) (maxL := 5) (ret := (some .int)) (by decide) rfl ?_
  intro p e s m args below meth c s₁ B hml hv
  obtain ⟨rfl, hP, hK⟩ := hv
  have hx := B.exec
  have hb := B.bytes
  have hr := B.returns
  have ht := tb_tl (atoms_spec (ws := wc yX12_paper cX12_paper 5 (some .int)) B.pre)
  have hown : s.vm.findClass RX12 = some m.cls := findClass_of_methodNamed B.named
  have hlocks := B.notSynchronized
  have hl := lv_entry [.ref h, .int a0, .int a1] (n := 5) (Nat.le_of_ble_eq_true rfl)
  rw [lg_entry_eq]
  generalize (lg_sl [.ref h, .int a0, .int a1] ++ List.replicate (5 - (lg_sl [.ref h, .int a0, .int a1]).length) Slot.unset).toArray = ls at hl ⊢
  have hl : lv_has ls 5 [(0, .ref h), (1, .int a0), (2, .int a1)] := hl
  refine lv_aload_n hx hb dX12_paper_0 rfl (lv_at hl 0 rfl) ?_
  refine lv_iload_n hx hb dX12_paper_1 rfl (lv_at hl 1 rfl) ?_
  have hPc := hP.sub (ws' := [(h, .inr (12, (o12 h g)))]) [0] rfl
  have hKc := hK.sub (tys' := []) [] rfl
  refine vp_callSi (W.runV (As := [.int a0]) (rest := []) ⟨hx, hb, hml, hown, ht⟩ (c_X12_noPaper l dC dI h g ca a0) (kV 1 ht m_1684 m_1686 m_73 m_89 m_1687 rfl rfl hd_X12_noPaper_v ⟨Nat.le_of_ble_eq_true rfl, Nat.le_of_ble_eq_true rfl⟩) (vR hPc hKc (va_recv hKc hPc (ci := 12) (q0 := 0) rfl rfl)) rfl rfl hl.1 rfl (lv_room (Nat.le_of_ble_eq_true rfl)) dX12_paper_2 ⟨Nat.le_of_ble_eq_true rfl, Nat.le_of_ble_eq_true rfl⟩) (fun r1 hr1 => ?_)
  obtain rfl : 1 = r1 := hr1.symm
  refine lv_if_eq (tgt := 11) hx hb dX12_paper_5 (by decide) (fun c2 => ?_) (fun c2 => ?_)
  · exact absurd c2 (by decide)
  · skip
    refine lv_ldc hx hb hown (ht _ m_1389) dX12_paper_8 ?_
    exact W.iret (v := (-100001)) hx hb hr (fun t ht9 hW => ⟨(-100001), rfl, rfl, ht9⟩) (fun q hq => by cases hq) dX12_paper_10
set_option maxHeartbeats 4000000 in
set_option maxRecDepth 100000 in
/-- X12_test -/
theorem c_X12_test (l : Launch) (dC : Nat → ClassId) (dI : Nat → Nat → Nat) (sz : Nat) (h : Nat) (g : Nat → Nat → Nat) (ca : Nat → Nat → ClassId) (a : Int32) (b : Int32) (d : Int32) : Met l yX12_test (wc yX12_test cX12_test 4 (some .int)) ({ frames := 2, cells := 0, slots := 0, locals := 45 } : Room) (pW (dC, dI) classes [(h, .inr (12, (o12 h g))), ((g 12 14), .inl ((ca 12 14), 30, .inl (fun _ => 0))), ((g 12 15), .inl ((ca 12 15), 30, .inl (fun _ => 0))), ((g 12 16), .inl ((ca 12 16), 30, .inl (fun _ => 0)))] [((ca 12 14), .int), ((ca 12 15), .int), ((ca 12 16), .int)] sz [.ref h, .int a, .int b, .int d]) (va_Qi (fun r (_ : Unit) => r = F_test a b d) (fun _ _ => True) (va_A [(h, .inr (12, (o12 h g))), ((g 12 14), .inl ((ca 12 14), 30, .inl (fun _ => 0))), ((g 12 15), .inl ((ca 12 15), 30, .inl (fun _ => 0))), ((g 12 16), .inl ((ca 12 16), 30, .inl (fun _ => 0)))] sz)) 0 0 (va_A [(h, .inr (12, (o12 h g))), ((g 12 14), .inl ((ca 12 14), 30, .inl (fun _ => 0))), ((g 12 15), .inl ((ca 12 15), 30, .inl (fun _ => 0))), ((g 12 16), .inl ((ca 12 16), 30, .inl (fun _ => 0)))] sz) := by
  refine Met.ofW (cc := cX12_test) (maxL := 4) (ret := (some .int)) (by decide) rfl ?_
  intro p e s m args below meth c s₁ B hml hv
  obtain ⟨rfl, hsz, hP, hK, hD0⟩ := hv
  have hx := B.exec
  have hb := B.bytes
  have hr := B.returns
  have ht := tb_tl (atoms_spec (ws := wc yX12_test cX12_test 4 (some .int)) B.pre)
  have hown : s.vm.findClass RX12 = some m.cls := findClass_of_methodNamed B.named
  have hlocks := B.notSynchronized
  subst hsz
  have hD := hD0.self (sz := s.heap.size)
  generalize hAe : va_A [(h, .inr (12, (o12 h g))), ((g 12 14), .inl ((ca 12 14), 30, .inl (fun _ => 0))), ((g 12 15), .inl ((ca 12 15), 30, .inl (fun _ => 0))), ((g 12 16), .inl ((ca 12 16), 30, .inl (fun _ => 0)))] s.heap.size = A at hD ⊢
  have hA : ∀ q : Nat, s.heap.size ≤ q → A q := fun q h => by rw [← hAe]; exact Or.inr h
  have hS : va_S A s.heap s.heap [] := va_S.rf
  have hP : va_P (dC, dI) classes [(h, .inr (12, (o12 h g))), ((g 12 14), .inl ((ca 12 14), 30, .inl (fun _ => 0))), ((g 12 15), .inl ((ca 12 15), 30, .inl (fun _ => 0))), ((g 12 16), .inl ((ca 12 16), 30, .inl (fun _ => 0)))] s.heap := hP
  have hl := lv_entry [.ref h, .int a, .int b, .int d] (n := 4) (Nat.le_of_ble_eq_true rfl)
  rw [lg_entry_eq]
  generalize (lg_sl [.ref h, .int a, .int b, .int d] ++ List.replicate (4 - (lg_sl [.ref h, .int a, .int b, .int d]).length) Slot.unset).toArray = ls at hl ⊢
  have hl : lv_has ls 4 [(0, .ref h), (1, .int a), (2, .int b), (3, .int d)] := hl
  refine lv_iload_n hx hb dX12_test_0 rfl (lv_at hl 1 rfl) ?_
  refine lv_i2l (v := (a.toInt64)) hx hb dX12_test_1 rfl ?_
  refine lv_lconst (v := 0) hx hb dX12_test_2 (by decide) ?_
  refine lv_ldc2 hx hb hown (ht _ m_1391) dX12_test_3 ?_
  have hPc := hP.sub (ws' := []) [] rfl
  have hKc := hK.sub (tys' := []) [] rfl
  refine vp_callSi (W.runS (As := [.long (a.toInt64), .long 0, .long 3]) (rest := []) ⟨hx, hb, hml, hown, ht⟩ (c_X12_in l dC dI (a.toInt64) 0 3 (a.toInt) (0) (3) ((Int32.toInt_toInt64 a).trans rfl) (by decide : (0 : Int64).toInt = 0) (by decide : (3 : Int64).toInt = 3)) (kS 3 ht m_1370 m_1371 m_89 m_1372 rfl rfl hd_X12_in_v ⟨Nat.le_of_ble_eq_true rfl, Nat.le_of_ble_eq_true rfl⟩) (sR hPc hKc) rfl rfl hl.1 rfl (lv_room (Nat.le_of_ble_eq_true rfl)) dX12_test_6 ⟨Nat.le_of_ble_eq_true rfl, Nat.le_of_ble_eq_true rfl⟩) (fun r1 hr1 => ?_)
  rcases hr1 with ⟨rfl, fr1⟩ | ⟨rfl, fr1⟩
  · skip
    refine lv_if_eq (tgt := 26) hx hb dX12_test_9 (by decide) (fun c2 => ?_) (fun c2 => ?_)
    · exact absurd c2 (by decide)
    · skip
      refine lv_iload_n hx hb dX12_test_12 rfl (lv_at hl 2 rfl) ?_
      have hPc := hP.sub (ws' := []) [] rfl
      have hKc := hK.sub (tys' := []) [] rfl
      refine vp_callSi (W.runS (As := [.int b]) (rest := []) ⟨hx, hb, hml, hown, ht⟩ (c_X12_isWeight l dC dI b) (kS 1 ht m_1415 m_1416 m_89 m_1417 rfl rfl hd_X12_isWeight_v ⟨Nat.le_of_ble_eq_true rfl, Nat.le_of_ble_eq_true rfl⟩) (sR hPc hKc) rfl rfl hl.1 rfl (lv_room (Nat.le_of_ble_eq_true rfl)) dX12_test_13 ⟨Nat.le_of_ble_eq_true rfl, Nat.le_of_ble_eq_true rfl⟩) (fun r3 hr3 => ?_)
      rcases hr3 with ⟨rfl, fr3⟩ | ⟨rfl, fr3⟩
      · skip
        refine lv_if_eq (tgt := 26) hx hb dX12_test_16 (by decide) (fun c4 => ?_) (fun c4 => ?_)
        · exact absurd c4 (by decide)
        · skip
          refine lv_iload_n hx hb dX12_test_19 rfl (lv_at hl 3 rfl) ?_
          have hPc := hP.sub (ws' := []) [] rfl
          have hKc := hK.sub (tys' := []) [] rfl
          refine vp_callSi (W.runS (As := [.int d]) (rest := []) ⟨hx, hb, hml, hown, ht⟩ (c_X12_isWeight l dC dI d) (kS 1 ht m_1415 m_1416 m_89 m_1417 rfl rfl hd_X12_isWeight_v ⟨Nat.le_of_ble_eq_true rfl, Nat.le_of_ble_eq_true rfl⟩) (sR hPc hKc) rfl rfl hl.1 rfl (lv_room (Nat.le_of_ble_eq_true rfl)) dX12_test_20 ⟨Nat.le_of_ble_eq_true rfl, Nat.le_of_ble_eq_true rfl⟩) (fun r5 hr5 => ?_)
          rcases hr5 with ⟨rfl, fr5⟩ | ⟨rfl, fr5⟩
          · skip
            refine lv_if_ne (tgt := 29) hx hb dX12_test_23 (by decide) (fun c6 => ?_) (fun c6 => ?_)
            · skip
              refine lv_aload_n hx hb dX12_test_29 rfl (lv_at hl 0 rfl) ?_
              refine va_get (D := (dC, dI)) (ci := 12) (v := .int 0) (C := RX12) (T := TX12) (N := 75) hx hb ht inX12 hown hK hP 0 rfl rfl 13 (by decide) (ht _ m_1152) (fun _ h9 => h9) rfl dX12_test_30 ?_
              refine lv_bipush (v := 30) hx hb dX12_test_33 (by decide) ?_
              refine lv_icmp_ne (tgt := 41) hx hb dX12_test_35 (by decide) (fun c7 => ?_) (fun c7 => ?_)
              · skip
                refine lv_aload_n hx hb dX12_test_41 rfl (lv_at hl 0 rfl) ?_
                refine va_get (D := (dC, dI)) (ci := 12) (v := .ref (g 12 14)) (C := RX12) (T := TX12) (N := 75) hx hb ht inX12 hown hK hP 0 rfl rfl 14 (by decide) (ht _ m_1153) (fun _ h9 => h9) rfl dX12_test_42 ?_
                refine lv_aload_n hx hb dX12_test_45 rfl (lv_at hl 0 rfl) ?_
                refine va_get (D := (dC, dI)) (ci := 12) (v := .int 0) (C := RX12) (T := TX12) (N := 75) hx hb ht inX12 hown hK hP 0 rfl rfl 13 (by decide) (ht _ m_1152) (fun _ h9 => h9) rfl dX12_test_46 ?_
                refine lv_iload_n hx hb dX12_test_49 rfl (lv_at hl 1 rfl) ?_
                refine va_iast (D := (dC, dI)) hx hb hK hP hD hS 1 0 rfl rfl (vp_in_iff.mpr (by decide)) dX12_test_50 (fun H locs hP hD hS => ?_)
                obtain ⟨f8, hP, hD⟩ : ∃ f8 : Nat → Int32, va_P (dC, dI) classes [(h, .inr (12, (o12 h g))), ((g 12 14), .inl ((ca 12 14), 30, .inl f8)), ((g 12 15), .inl ((ca 12 15), 30, .inl (fun _ => 0))), ((g 12 16), .inl ((ca 12 16), 30, .inl (fun _ => 0)))] H ∧ va_D A [(h, .inr (12, (o12 h g))), ((g 12 14), .inl ((ca 12 14), 30, .inl f8)), ((g 12 15), .inl ((ca 12 15), 30, .inl (fun _ => 0))), ((g 12 16), .inl ((ca 12 16), 30, .inl (fun _ => 0)))] := ⟨_, hP, hD⟩
                refine lv_aload_n hx hb dX12_test_51 rfl (lv_at hl 0 rfl) ?_
                refine va_get (D := (dC, dI)) (ci := 12) (v := .ref (g 12 15)) (C := RX12) (T := TX12) (N := 75) hx hb ht inX12 hown hK hP 0 rfl rfl 15 (by decide) (ht _ m_1154) (fun _ h9 => h9) rfl dX12_test_52 ?_
                refine lv_aload_n hx hb dX12_test_55 rfl (lv_at hl 0 rfl) ?_
                refine va_get (D := (dC, dI)) (ci := 12) (v := .int 0) (C := RX12) (T := TX12) (N := 75) hx hb ht inX12 hown hK hP 0 rfl rfl 13 (by decide) (ht _ m_1152) (fun _ h9 => h9) rfl dX12_test_56 ?_
                refine lv_iload_n hx hb dX12_test_59 rfl (lv_at hl 2 rfl) ?_
                refine lv_iload_n hx hb dX12_test_60 rfl (lv_at hl 3 rfl) ?_
                refine lv_isub hx hb dX12_test_61 ?_
                refine lv_topi (fun v9 ev9 => ?_)
                have tv9 := z_sub ev9 (rfl : (b).toInt = _) (rfl : (d).toInt = _) (by omega) (by omega)
                refine va_iast (D := (dC, dI)) hx hb hK hP hD hS 2 1 rfl rfl (vp_in_iff.mpr (by decide)) dX12_test_62 (fun H locs hP hD hS => ?_)
                obtain ⟨f10, hP, hD⟩ : ∃ f10 : Nat → Int32, va_P (dC, dI) classes [(h, .inr (12, (o12 h g))), ((g 12 14), .inl ((ca 12 14), 30, .inl f8)), ((g 12 15), .inl ((ca 12 15), 30, .inl f10)), ((g 12 16), .inl ((ca 12 16), 30, .inl (fun _ => 0)))] H ∧ va_D A [(h, .inr (12, (o12 h g))), ((g 12 14), .inl ((ca 12 14), 30, .inl f8)), ((g 12 15), .inl ((ca 12 15), 30, .inl f10)), ((g 12 16), .inl ((ca 12 16), 30, .inl (fun _ => 0)))] := ⟨_, hP, hD⟩
                refine lv_aload_n hx hb dX12_test_63 rfl (lv_at hl 0 rfl) ?_
                refine va_get (D := (dC, dI)) (ci := 12) (v := .ref (g 12 16)) (C := RX12) (T := TX12) (N := 75) hx hb ht inX12 hown hK hP 0 rfl rfl 16 (by decide) (ht _ m_1155) (fun _ h9 => h9) rfl dX12_test_64 ?_
                refine lv_aload_n hx hb dX12_test_67 rfl (lv_at hl 0 rfl) ?_
                refine va_get (D := (dC, dI)) (ci := 12) (v := .int 0) (C := RX12) (T := TX12) (N := 75) hx hb ht inX12 hown hK hP 0 rfl rfl 13 (by decide) (ht _ m_1152) (fun _ h9 => h9) rfl dX12_test_68 ?_
                refine lv_aload_n hx hb dX12_test_71 rfl (lv_at hl 0 rfl) ?_
                refine va_get (D := (dC, dI)) (ci := 12) (v := .int 0) (C := RX12) (T := TX12) (N := 75) hx hb ht inX12 hown hK hP 0 rfl rfl 0 (by decide) (ht _ m_1139) (fun _ h9 => h9) rfl dX12_test_72 ?_
                refine va_iast (D := (dC, dI)) hx hb hK hP hD hS 3 2 rfl rfl (vp_in_iff.mpr (by decide)) dX12_test_75 (fun H locs hP hD hS => ?_)
                obtain ⟨f11, hP, hD⟩ : ∃ f11 : Nat → Int32, va_P (dC, dI) classes [(h, .inr (12, (o12 h g))), ((g 12 14), .inl ((ca 12 14), 30, .inl f8)), ((g 12 15), .inl ((ca 12 15), 30, .inl f10)), ((g 12 16), .inl ((ca 12 16), 30, .inl f11))] H ∧ va_D A [(h, .inr (12, (o12 h g))), ((g 12 14), .inl ((ca 12 14), 30, .inl f8)), ((g 12 15), .inl ((ca 12 15), 30, .inl f10)), ((g 12 16), .inl ((ca 12 16), 30, .inl f11))] := ⟨_, hP, hD⟩
                refine lv_aload_n hx hb dX12_test_76 rfl (lv_at hl 0 rfl) ?_
                refine lv_dup hx hb dX12_test_77 rfl ?_
                refine va_get (D := (dC, dI)) (ci := 12) (v := .int 0) (C := RX12) (T := TX12) (N := 75) hx hb ht inX12 hown hK hP 0 rfl rfl 13 (by decide) (ht _ m_1152) (fun _ h9 => h9) rfl dX12_test_78 ?_
                refine lv_iconst (v := 1) hx hb dX12_test_81 (by decide) ?_
                refine lv_iadd hx hb dX12_test_82 ?_
                refine lv_topi (fun v12 ev12 => ?_)
                obtain rfl : 1 = v12 := (ev12.trans (by decide)).symm
                refine va_put (D := (dC, dI)) (ci := 12) (v := .int 1) (ty := (.int)) (C := RX12) (T := TX12) (N := 75) hx hb ht inX12 tyX12 tyX12_ok nmX12 hown hK hP hD hS 0 rfl rfl 13 (by decide) (ht _ m_1152) (fun _ h9 => h9) rfl (by decide +kernel) rfl rfl (Nat.le_of_ble_eq_true rfl) dX12_test_83 (fun H locs hP hD hS => ?_)
                have hP : va_P (dC, dI) classes [(h, .inr (12, ((o12 h g).set 13 (.int 1)))), ((g 12 14), .inl ((ca 12 14), 30, .inl f8)), ((g 12 15), .inl ((ca 12 15), 30, .inl f10)), ((g 12 16), .inl ((ca 12 16), 30, .inl f11))] H := hP
                have hD : va_D A [(h, .inr (12, ((o12 h g).set 13 (.int 1)))), ((g 12 14), .inl ((ca 12 14), 30, .inl f8)), ((g 12 15), .inl ((ca 12 15), 30, .inl f10)), ((g 12 16), .inl ((ca 12 16), 30, .inl f11))] := hD
                refine lv_aload_n hx hb dX12_test_86 rfl (lv_at hl 0 rfl) ?_
                refine va_get (D := (dC, dI)) (ci := 12) (v := .int 1) (C := RX12) (T := TX12) (N := 75) hx hb ht inX12 hown hK hP 0 rfl rfl 13 (by decide) (ht _ m_1152) (fun _ h9 => h9) rfl dX12_test_87 ?_
                exact W.iret (v := 1) hx hb hr (fun t ht9 hW => ⟨⟨1, (), rfl, (by unfold F_test; first | decide | ((repeat' split) <;> first | rfl | (exfalso; omega) | exact z_of (by decide) (by omega))), trivial⟩, hS.F ht9⟩) hS.2.2 dX12_test_90
              · exact absurd c7 (by decide)
            · exact absurd c6 (by decide)
          · skip
            refine lv_if_ne (tgt := 29) hx hb dX12_test_23 (by decide) (fun c13 => ?_) (fun c13 => ?_)
            · exact absurd rfl c13
            · skip
              refine lv_ldc hx hb hown (ht _ m_1373) dX12_test_26 ?_
              exact W.iret (v := (-100002)) hx hb hr (fun t ht9 hW => ⟨⟨(-100002), (), rfl, (by unfold F_test; first | decide | ((repeat' split) <;> first | rfl | (exfalso; omega) | exact z_of (by decide) (by omega))), trivial⟩, hS.F ht9⟩) hS.2.2 dX12_test_28
      · skip
        refine lv_if_eq (tgt := 26) hx hb dX12_test_16 (by decide) (fun c14 => ?_) (fun c14 => ?_)
        · skip
          refine lv_ldc hx hb hown (ht _ m_1373) dX12_test_26 ?_
          exact W.iret (v := (-100002)) hx hb hr (fun t ht9 hW => ⟨⟨(-100002), (), rfl, (by unfold F_test; first | decide | ((repeat' split) <;> first | rfl | (exfalso; omega) | exact z_of (by decide) (by omega))), trivial⟩, hS.F ht9⟩) hS.2.2 dX12_test_28
        · exact absurd rfl c14
  · skip
    refine lv_if_eq (tgt := 26) hx hb dX12_test_9 (by decide) (fun c15 => ?_) (fun c15 => ?_)
    · skip
      refine lv_ldc hx hb hown (ht _ m_1373) dX12_test_26 ?_
      exact W.iret (v := (-100002)) hx hb hr (fun t ht9 hW => ⟨⟨(-100002), (), rfl, (by unfold F_test; first | decide | ((repeat' split) <;> first | rfl | (exfalso; omega) | exact z_of (by decide) (by omega))), trivial⟩, hS.F ht9⟩) hS.2.2 dX12_test_28
    · exact absurd rfl c15
set_option maxHeartbeats 4000000 in
set_option maxRecDepth 100000 in
/-- X12_error -/
theorem c_X12_error (l : Launch) (dC : Nat → ClassId) (dI : Nat → Nat → Nat) (h : Nat) (g : Nat → Nat → Nat) (ca : Nat → Nat → ClassId) (a : Int32) (b : Int32) (d : Int32) : Met l yX12_error (wc yX12_error cX12_error 4 (some .int)) ({ frames := 2, cells := 0, slots := 0, locals := 45 } : Room) (pR (dC, dI) classes [(h, .inr (12, (o12 h g)))] [] [.ref h, .int a, .int b, .int d]) (vp_Si (fun r => r = F_error a b d)) 0 0 (fun _ => False) := by
  refine Met.ofW (cc := cX12_error) (maxL := 4) (ret := (some .int)) (by decide) rfl ?_
  intro p e s m args below meth c s₁ B hml hv
  obtain ⟨rfl, hP, hK⟩ := hv
  have hx := B.exec
  have hb := B.bytes
  have hr := B.returns
  have ht := tb_tl (atoms_spec (ws := wc yX12_error cX12_error 4 (some .int)) B.pre)
  have hown : s.vm.findClass RX12 = some m.cls := findClass_of_methodNamed B.named
  have hlocks := B.notSynchronized
  have hl := lv_entry [.ref h, .int a, .int b, .int d] (n := 4) (Nat.le_of_ble_eq_true rfl)
  rw [lg_entry_eq]
  generalize (lg_sl [.ref h, .int a, .int b, .int d] ++ List.replicate (4 - (lg_sl [.ref h, .int a, .int b, .int d]).length) Slot.unset).toArray = ls at hl ⊢
  have hl : lv_has ls 4 [(0, .ref h), (1, .int a), (2, .int b), (3, .int d)] := hl
  refine lv_iload_n hx hb dX12_error_0 rfl (lv_at hl 1 rfl) ?_
  refine lv_i2l (v := (a.toInt64)) hx hb dX12_error_1 rfl ?_
  refine lv_lconst (v := 0) hx hb dX12_error_2 (by decide) ?_
  refine lv_ldc2 hx hb hown (ht _ m_1391) dX12_error_3 ?_
  have hPc := hP.sub (ws' := []) [] rfl
  have hKc := hK.sub (tys' := []) [] rfl
  refine vp_callSi (W.runS (As := [.long (a.toInt64), .long 0, .long 3]) (rest := []) ⟨hx, hb, hml, hown, ht⟩ (c_X12_in l dC dI (a.toInt64) 0 3 (a.toInt) (0) (3) ((Int32.toInt_toInt64 a).trans rfl) (by decide : (0 : Int64).toInt = 0) (by decide : (3 : Int64).toInt = 3)) (kS 3 ht m_1370 m_1371 m_89 m_1372 rfl rfl hd_X12_in_v ⟨Nat.le_of_ble_eq_true rfl, Nat.le_of_ble_eq_true rfl⟩) (sR hPc hKc) rfl rfl hl.1 rfl (lv_room (Nat.le_of_ble_eq_true rfl)) dX12_error_6 ⟨Nat.le_of_ble_eq_true rfl, Nat.le_of_ble_eq_true rfl⟩) (fun r1 hr1 => ?_)
  rcases hr1 with ⟨rfl, fr1⟩ | ⟨rfl, fr1⟩
  · skip
    refine lv_if_eq (tgt := 29) hx hb dX12_error_9 (by decide) (fun c2 => ?_) (fun c2 => ?_)
    · exact absurd c2 (by decide)
    · skip
      refine lv_iload_n hx hb dX12_error_12 rfl (lv_at hl 2 rfl) ?_
      have hPc := hP.sub (ws' := []) [] rfl
      have hKc := hK.sub (tys' := []) [] rfl
      refine vp_callSi (W.runS (As := [.int b]) (rest := []) ⟨hx, hb, hml, hown, ht⟩ (c_X12_isDay l dC dI b) (kS 1 ht m_1422 m_1423 m_89 m_1424 rfl rfl hd_X12_isDay_v ⟨Nat.le_of_ble_eq_true rfl, Nat.le_of_ble_eq_true rfl⟩) (sR hPc hKc) rfl rfl hl.1 rfl (lv_room (Nat.le_of_ble_eq_true rfl)) dX12_error_13 ⟨Nat.le_of_ble_eq_true rfl, Nat.le_of_ble_eq_true rfl⟩) (fun r3 hr3 => ?_)
      rcases hr3 with ⟨rfl, fr3⟩ | ⟨rfl, fr3⟩
      · skip
        refine lv_if_eq (tgt := 29) hx hb dX12_error_16 (by decide) (fun c4 => ?_) (fun c4 => ?_)
        · exact absurd c4 (by decide)
        · skip
          refine lv_iload_n hx hb dX12_error_19 rfl (lv_at hl 3 rfl) ?_
          refine lv_i2l (v := (d.toInt64)) hx hb dX12_error_20 rfl ?_
          refine lv_lconst (v := 0) hx hb dX12_error_21 (by decide) ?_
          refine lv_lconst (v := 1) hx hb dX12_error_22 (by decide) ?_
          have hPc := hP.sub (ws' := []) [] rfl
          have hKc := hK.sub (tys' := []) [] rfl
          refine vp_callSi (W.runS (As := [.long (d.toInt64), .long 0, .long 1]) (rest := []) ⟨hx, hb, hml, hown, ht⟩ (c_X12_in l dC dI (d.toInt64) 0 1 (d.toInt) (0) (1) ((Int32.toInt_toInt64 d).trans rfl) (by decide : (0 : Int64).toInt = 0) (by decide : (1 : Int64).toInt = 1)) (kS 3 ht m_1370 m_1371 m_89 m_1372 rfl rfl hd_X12_in_v ⟨Nat.le_of_ble_eq_true rfl, Nat.le_of_ble_eq_true rfl⟩) (sR hPc hKc) rfl rfl hl.1 rfl (lv_room (Nat.le_of_ble_eq_true rfl)) dX12_error_23 ⟨Nat.le_of_ble_eq_true rfl, Nat.le_of_ble_eq_true rfl⟩) (fun r5 hr5 => ?_)
          rcases hr5 with ⟨rfl, fr5⟩ | ⟨rfl, fr5⟩
          · skip
            refine lv_if_ne (tgt := 32) hx hb dX12_error_26 (by decide) (fun c6 => ?_) (fun c6 => ?_)
            · skip
              refine lv_aload_n hx hb dX12_error_32 rfl (lv_at hl 0 rfl) ?_
              refine lv_iload_n hx hb dX12_error_33 rfl (lv_at hl 1 rfl) ?_
              refine lv_iload_n hx hb dX12_error_34 rfl (lv_at hl 2 rfl) ?_
              refine lv_iload_n hx hb dX12_error_35 rfl (lv_at hl 3 rfl) ?_
              refine lv_iconst (v := 1) hx hb dX12_error_36 (by decide) ?_
              refine lv_icmp_ne (tgt := 44) hx hb dX12_error_37 (by decide) (fun c7 => ?_) (fun c7 => ?_)
              · have fc7 := z_ne (rfl : (d).toInt = _) (by decide : (1 : Int32).toInt = 1) c7
                refine lv_iconst (v := 0) hx hb dX12_error_44 (by decide) ?_
                have hPc := hP.sub (ws' := [(h, .inr (12, (o12 h g)))]) [0] rfl
                have hKc := hK.sub (tys' := []) [] rfl
                refine vp_callSi (W.runV (As := [.int a, .int b, .int 0]) (rest := []) ⟨hx, hb, hml, hown, ht⟩ (c_X12_errorOf l dC dI h g ca a b 0) (kV 3 ht m_1426 m_1428 m_44 m_89 m_1429 rfl rfl hd_X12_errorOf_v ⟨Nat.le_of_ble_eq_true rfl, Nat.le_of_ble_eq_true rfl⟩) (vR hPc hKc (va_recv hKc hPc (ci := 12) (q0 := 0) rfl rfl)) rfl rfl hl.1 rfl (lv_room (Nat.le_of_ble_eq_true rfl)) dX12_error_45 ⟨Nat.le_of_ble_eq_true rfl, Nat.le_of_ble_eq_true rfl⟩) (fun r8 hr8 => ?_)
                obtain rfl : 0 = r8 := hr8.symm
                exact W.iret (v := 0) hx hb hr (fun t ht9 hW => ⟨0, rfl, (by unfold F_error; first | decide | ((repeat' split) <;> first | rfl | (exfalso; omega) | exact z_of (by decide) (by omega))), ht9⟩) (fun q hq => by cases hq) dX12_error_48
              · have fc7 := z_eq (rfl : (d).toInt = _) (by decide : (1 : Int32).toInt = 1) c7
                refine lv_iconst (v := 1) hx hb dX12_error_40 (by decide) ?_
                refine lv_goto (tgt := 45) hx hb dX12_error_41 (by decide) ?_
                have hPc := hP.sub (ws' := [(h, .inr (12, (o12 h g)))]) [0] rfl
                have hKc := hK.sub (tys' := []) [] rfl
                refine vp_callSi (W.runV (As := [.int a, .int b, .int 1]) (rest := []) ⟨hx, hb, hml, hown, ht⟩ (c_X12_errorOf l dC dI h g ca a b 1) (kV 3 ht m_1426 m_1428 m_44 m_89 m_1429 rfl rfl hd_X12_errorOf_v ⟨Nat.le_of_ble_eq_true rfl, Nat.le_of_ble_eq_true rfl⟩) (vR hPc hKc (va_recv hKc hPc (ci := 12) (q0 := 0) rfl rfl)) rfl rfl hl.1 rfl (lv_room (Nat.le_of_ble_eq_true rfl)) dX12_error_45 ⟨Nat.le_of_ble_eq_true rfl, Nat.le_of_ble_eq_true rfl⟩) (fun r9 hr9 => ?_)
                obtain rfl : 0 = r9 := hr9.symm
                exact W.iret (v := 0) hx hb hr (fun t ht9 hW => ⟨0, rfl, (by unfold F_error; first | decide | ((repeat' split) <;> first | rfl | (exfalso; omega) | exact z_of (by decide) (by omega))), ht9⟩) (fun q hq => by cases hq) dX12_error_48
            · exact absurd c6 (by decide)
          · skip
            refine lv_if_ne (tgt := 32) hx hb dX12_error_26 (by decide) (fun c10 => ?_) (fun c10 => ?_)
            · exact absurd rfl c10
            · skip
              refine lv_ldc hx hb hown (ht _ m_1373) dX12_error_29 ?_
              exact W.iret (v := (-100002)) hx hb hr (fun t ht9 hW => ⟨(-100002), rfl, (by unfold F_error; first | decide | ((repeat' split) <;> first | rfl | (exfalso; omega) | exact z_of (by decide) (by omega))), ht9⟩) (fun q hq => by cases hq) dX12_error_31
      · skip
        refine lv_if_eq (tgt := 29) hx hb dX12_error_16 (by decide) (fun c11 => ?_) (fun c11 => ?_)
        · skip
          refine lv_ldc hx hb hown (ht _ m_1373) dX12_error_29 ?_
          exact W.iret (v := (-100002)) hx hb hr (fun t ht9 hW => ⟨(-100002), rfl, (by unfold F_error; first | decide | ((repeat' split) <;> first | rfl | (exfalso; omega) | exact z_of (by decide) (by omega))), ht9⟩) (fun q hq => by cases hq) dX12_error_31
        · exact absurd rfl c11
  · skip
    refine lv_if_eq (tgt := 29) hx hb dX12_error_9 (by decide) (fun c12 => ?_) (fun c12 => ?_)
    · skip
      refine lv_ldc hx hb hown (ht _ m_1373) dX12_error_29 ?_
      exact W.iret (v := (-100002)) hx hb hr (fun t ht9 hW => ⟨(-100002), rfl, (by unfold F_error; first | decide | ((repeat' split) <;> first | rfl | (exfalso; omega) | exact z_of (by decide) (by omega))), ht9⟩) (fun q hq => by cases hq) dX12_error_31
    · exact absurd rfl c12
set_option maxHeartbeats 4000000 in
set_option maxRecDepth 100000 in
/-- X12_count -/
theorem c_X12_count (l : Launch) (dC : Nat → ClassId) (dI : Nat → Nat → Nat) (h : Nat) (g : Nat → Nat → Nat) (ca : Nat → Nat → ClassId) (n : Int32) : Met l yX12_count (wc yX12_count cX12_count 5 (some .int)) ({ frames := 1, cells := 0, slots := 0, locals := 23 } : Room) (pR (dC, dI) classes [(h, .inr (12, (o12 h g)))] [] [.ref h, .int n]) (vp_Si (fun r => r = F_count n)) 0 0 (fun _ => False) := by
  refine Met.ofW (cc := cX12_count) (maxL := 5) (ret := (some .int)) (by decide) rfl ?_
  intro p e s m args below meth c s₁ B hml hv
  obtain ⟨rfl, hP, hK⟩ := hv
  have hx := B.exec
  have hb := B.bytes
  have hr := B.returns
  have ht := tb_tl (atoms_spec (ws := wc yX12_count cX12_count 5 (some .int)) B.pre)
  have hown : s.vm.findClass RX12 = some m.cls := findClass_of_methodNamed B.named
  have hlocks := B.notSynchronized
  have hl := lv_entry [.ref h, .int n] (n := 5) (Nat.le_of_ble_eq_true rfl)
  rw [lg_entry_eq]
  generalize (lg_sl [.ref h, .int n] ++ List.replicate (5 - (lg_sl [.ref h, .int n]).length) Slot.unset).toArray = ls at hl ⊢
  have hl : lv_has ls 5 [(0, .ref h), (1, .int n)] := hl
  refine lv_iconst (v := 0) hx hb dX12_count_0 (by decide) ?_
  refine lv_istore_n (lv' := [(2, .int 0), (0, .ref h), (1, .int n)]) hx hb dX12_count_1 rfl hl (by decide) rfl (fun ls hl => ?_)
  refine lv_iconst (v := 0) hx hb dX12_count_2 (by decide) ?_
  refine lv_istore_n (lv' := [(3, .int 0), (2, .int 0), (0, .ref h), (1, .int n)]) hx hb dX12_count_3 rfl hl (by decide) rfl (fun ls hl => ?_)
  refine lv_iconst (v := 0) hx hb dX12_count_4 (by decide) ?_
  refine lv_istore (lv' := [(4, .int 0), (3, .int 0), (2, .int 0), (0, .ref h), (1, .int n)]) hx hb dX12_count_5 hl (by decide) rfl (fun ls hl => ?_)
  refine lv_iload hx hb dX12_count_7 (lv_at hl 0 rfl) ?_
  refine lv_aload_n hx hb dX12_count_9 rfl (lv_at hl 3 rfl) ?_
  refine va_get (D := (dC, dI)) (ci := 12) (v := .int 0) (C := RX12) (T := TX12) (N := 75) hx hb ht inX12 hown hK hP 0 rfl rfl 3 (by decide) (ht _ m_1142) (fun _ h9 => h9) rfl dX12_count_10 ?_
  refine lv_icmp_ge (tgt := 43) hx hb dX12_count_13 (by decide) (fun c1 => ?_) (fun c1 => ?_)
  · skip
    refine lv_iconst (v := 0) hx hb dX12_count_43 (by decide) ?_
    refine lv_istore (lv' := [(4, .int 0), (3, .int 0), (2, .int 0), (0, .ref h), (1, .int n)]) hx hb dX12_count_44 hl (by decide) rfl (fun ls hl => ?_)
    refine lv_iload hx hb dX12_count_46 (lv_at hl 0 rfl) ?_
    refine lv_aload_n hx hb dX12_count_48 rfl (lv_at hl 3 rfl) ?_
    refine va_get (D := (dC, dI)) (ci := 12) (v := .int 0) (C := RX12) (T := TX12) (N := 75) hx hb ht inX12 hown hK hP 0 rfl rfl 67 (by decide) (ht _ m_1206) (fun _ h9 => h9) rfl dX12_count_49 ?_
    refine lv_icmp_ge (tgt := 71) hx hb dX12_count_52 (by decide) (fun c2 => ?_) (fun c2 => ?_)
    · skip
      refine lv_iload_n hx hb dX12_count_71 rfl (lv_at hl 4 rfl) ?_
      rcases sw_0_10 n with h3 | rfl | rfl | rfl | rfl | rfl | rfl | rfl | rfl | rfl | rfl | rfl
      · refine lv_tableOut (tgt := 183) hx hb dX12_count_72 h3 (by decide) ?_
        refine lv_ldc hx hb hown (ht _ m_1373) dX12_count_183 ?_
        exact W.iret (v := (-100002)) hx hb hr (fun t ht9 hW => ⟨(-100002), rfl, (by unfold F_count; first | decide | ((repeat' split) <;> first | rfl | (exfalso; omega) | exact z_of (by decide) (by omega))), ht9⟩) (fun q hq => by cases hq) dX12_count_185
      · refine lv_tableIn (tgt := 132) (off := 60) hx hb dX12_count_72 (by decide) (by decide) rfl (by decide) ?_
        refine lv_aload_n hx hb dX12_count_132 rfl (lv_at hl 3 rfl) ?_
        refine va_get (D := (dC, dI)) (ci := 12) (v := .int 0) (C := RX12) (T := TX12) (N := 75) hx hb ht inX12 hown hK hP 0 rfl rfl 0 (by decide) (ht _ m_1139) (fun _ h9 => h9) rfl dX12_count_133 ?_
        exact W.iret (v := 0) hx hb hr (fun t ht9 hW => ⟨0, rfl, (by unfold F_count; first | decide | ((repeat' split) <;> first | rfl | (exfalso; omega) | exact z_of (by decide) (by omega))), ht9⟩) (fun q hq => by cases hq) dX12_count_136
      · refine lv_tableIn (tgt := 137) (off := 65) hx hb dX12_count_72 (by decide) (by decide) rfl (by decide) ?_
        refine lv_aload_n hx hb dX12_count_137 rfl (lv_at hl 3 rfl) ?_
        refine va_get (D := (dC, dI)) (ci := 12) (v := .int 0) (C := RX12) (T := TX12) (N := 75) hx hb ht inX12 hown hK hP 0 rfl rfl 1 (by decide) (ht _ m_1140) (fun _ h9 => h9) rfl dX12_count_138 ?_
        exact W.iret (v := 0) hx hb hr (fun t ht9 hW => ⟨0, rfl, (by unfold F_count; first | decide | ((repeat' split) <;> first | rfl | (exfalso; omega) | exact z_of (by decide) (by omega))), ht9⟩) (fun q hq => by cases hq) dX12_count_141
      · refine lv_tableIn (tgt := 142) (off := 70) hx hb dX12_count_72 (by decide) (by decide) rfl (by decide) ?_
        refine lv_aload_n hx hb dX12_count_142 rfl (lv_at hl 3 rfl) ?_
        refine va_get (D := (dC, dI)) (ci := 12) (v := .int 0) (C := RX12) (T := TX12) (N := 75) hx hb ht inX12 hown hK hP 0 rfl rfl 3 (by decide) (ht _ m_1142) (fun _ h9 => h9) rfl dX12_count_143 ?_
        exact W.iret (v := 0) hx hb hr (fun t ht9 hW => ⟨0, rfl, (by unfold F_count; first | decide | ((repeat' split) <;> first | rfl | (exfalso; omega) | exact z_of (by decide) (by omega))), ht9⟩) (fun q hq => by cases hq) dX12_count_146
      · refine lv_tableIn (tgt := 147) (off := 75) hx hb dX12_count_72 (by decide) (by decide) rfl (by decide) ?_
        refine lv_iload_n hx hb dX12_count_147 rfl (lv_at hl 2 rfl) ?_
        exact W.iret (v := 0) hx hb hr (fun t ht9 hW => ⟨0, rfl, (by unfold F_count; first | decide | ((repeat' split) <;> first | rfl | (exfalso; omega) | exact z_of (by decide) (by omega))), ht9⟩) (fun q hq => by cases hq) dX12_count_148
      · refine lv_tableIn (tgt := 149) (off := 77) hx hb dX12_count_72 (by decide) (by decide) rfl (by decide) ?_
        refine lv_aload_n hx hb dX12_count_149 rfl (lv_at hl 3 rfl) ?_
        refine va_get (D := (dC, dI)) (ci := 12) (v := .int 0) (C := RX12) (T := TX12) (N := 75) hx hb ht inX12 hown hK hP 0 rfl rfl 13 (by decide) (ht _ m_1152) (fun _ h9 => h9) rfl dX12_count_150 ?_
        exact W.iret (v := 0) hx hb hr (fun t ht9 hW => ⟨0, rfl, (by unfold F_count; first | decide | ((repeat' split) <;> first | rfl | (exfalso; omega) | exact z_of (by decide) (by omega))), ht9⟩) (fun q hq => by cases hq) dX12_count_153
      · refine lv_tableIn (tgt := 154) (off := 82) hx hb dX12_count_72 (by decide) (by decide) rfl (by decide) ?_
        refine lv_aload_n hx hb dX12_count_154 rfl (lv_at hl 3 rfl) ?_
        refine va_get (D := (dC, dI)) (ci := 12) (v := .int 0) (C := RX12) (T := TX12) (N := 75) hx hb ht inX12 hown hK hP 0 rfl rfl 23 (by decide) (ht _ m_1162) (fun _ h9 => h9) rfl dX12_count_155 ?_
        exact W.iret (v := 0) hx hb hr (fun t ht9 hW => ⟨0, rfl, (by unfold F_count; first | decide | ((repeat' split) <;> first | rfl | (exfalso; omega) | exact z_of (by decide) (by omega))), ht9⟩) (fun q hq => by cases hq) dX12_count_158
      · refine lv_tableIn (tgt := 159) (off := 87) hx hb dX12_count_72 (by decide) (by decide) rfl (by decide) ?_
        refine lv_aload_n hx hb dX12_count_159 rfl (lv_at hl 3 rfl) ?_
        refine va_get (D := (dC, dI)) (ci := 12) (v := .int 0) (C := RX12) (T := TX12) (N := 75) hx hb ht inX12 hown hK hP 0 rfl rfl 67 (by decide) (ht _ m_1206) (fun _ h9 => h9) rfl dX12_count_160 ?_
        exact W.iret (v := 0) hx hb hr (fun t ht9 hW => ⟨0, rfl, (by unfold F_count; first | decide | ((repeat' split) <;> first | rfl | (exfalso; omega) | exact z_of (by decide) (by omega))), ht9⟩) (fun q hq => by cases hq) dX12_count_163
      · refine lv_tableIn (tgt := 164) (off := 92) hx hb dX12_count_72 (by decide) (by decide) rfl (by decide) ?_
        refine lv_aload_n hx hb dX12_count_164 rfl (lv_at hl 3 rfl) ?_
        refine lv_iconst (v := 1) hx hb dX12_count_165 (by decide) ?_
        have hPc := hP.sub (ws' := [(h, .inr (12, (o12 h g)))]) [0] rfl
        have hKc := hK.sub (tys' := []) [] rfl
        refine vp_callSi (W.runV (As := [.int 1]) (rest := []) ⟨hx, hb, hml, hown, ht⟩ (c_X12_balesIn l dC dI h g ca 1) (kV 1 ht m_1712 m_1714 m_75 m_89 m_1715 rfl rfl hd_X12_balesIn_v ⟨Nat.le_of_ble_eq_true rfl, Nat.le_of_ble_eq_true rfl⟩) (vR hPc hKc (va_recv hKc hPc (ci := 12) (q0 := 0) rfl rfl)) rfl rfl hl.1 rfl (lv_room (Nat.le_of_ble_eq_true rfl)) dX12_count_166 ⟨Nat.le_of_ble_eq_true rfl, Nat.le_of_ble_eq_true rfl⟩) (fun r4 hr4 => ?_)
        obtain rfl : 0 = r4 := hr4.symm
        exact W.iret (v := 0) hx hb hr (fun t ht9 hW => ⟨0, rfl, (by unfold F_count; first | decide | ((repeat' split) <;> first | rfl | (exfalso; omega) | exact z_of (by decide) (by omega))), ht9⟩) (fun q hq => by cases hq) dX12_count_169
      · refine lv_tableIn (tgt := 170) (off := 98) hx hb dX12_count_72 (by decide) (by decide) rfl (by decide) ?_
        refine lv_aload_n hx hb dX12_count_170 rfl (lv_at hl 3 rfl) ?_
        refine lv_iconst (v := 2) hx hb dX12_count_171 (by decide) ?_
        have hPc := hP.sub (ws' := [(h, .inr (12, (o12 h g)))]) [0] rfl
        have hKc := hK.sub (tys' := []) [] rfl
        refine vp_callSi (W.runV (As := [.int 2]) (rest := []) ⟨hx, hb, hml, hown, ht⟩ (c_X12_balesIn l dC dI h g ca 2) (kV 1 ht m_1712 m_1714 m_75 m_89 m_1715 rfl rfl hd_X12_balesIn_v ⟨Nat.le_of_ble_eq_true rfl, Nat.le_of_ble_eq_true rfl⟩) (vR hPc hKc (va_recv hKc hPc (ci := 12) (q0 := 0) rfl rfl)) rfl rfl hl.1 rfl (lv_room (Nat.le_of_ble_eq_true rfl)) dX12_count_172 ⟨Nat.le_of_ble_eq_true rfl, Nat.le_of_ble_eq_true rfl⟩) (fun r5 hr5 => ?_)
        obtain rfl : 0 = r5 := hr5.symm
        exact W.iret (v := 0) hx hb hr (fun t ht9 hW => ⟨0, rfl, (by unfold F_count; first | decide | ((repeat' split) <;> first | rfl | (exfalso; omega) | exact z_of (by decide) (by omega))), ht9⟩) (fun q hq => by cases hq) dX12_count_175
      · refine lv_tableIn (tgt := 176) (off := 104) hx hb dX12_count_72 (by decide) (by decide) rfl (by decide) ?_
        refine lv_aload_n hx hb dX12_count_176 rfl (lv_at hl 3 rfl) ?_
        refine va_get (D := (dC, dI)) (ci := 12) (v := .int 0) (C := RX12) (T := TX12) (N := 75) hx hb ht inX12 hown hK hP 0 rfl rfl 33 (by decide) (ht _ m_1172) (fun _ h9 => h9) rfl dX12_count_177 ?_
        exact W.iret (v := 0) hx hb hr (fun t ht9 hW => ⟨0, rfl, (by unfold F_count; first | decide | ((repeat' split) <;> first | rfl | (exfalso; omega) | exact z_of (by decide) (by omega))), ht9⟩) (fun q hq => by cases hq) dX12_count_180
      · refine lv_tableIn (tgt := 181) (off := 109) hx hb dX12_count_72 (by decide) (by decide) rfl (by decide) ?_
        refine lv_iload_n hx hb dX12_count_181 rfl (lv_at hl 1 rfl) ?_
        exact W.iret (v := 0) hx hb hr (fun t ht9 hW => ⟨0, rfl, (by unfold F_count; first | decide | ((repeat' split) <;> first | rfl | (exfalso; omega) | exact z_of (by decide) (by omega))), ht9⟩) (fun q hq => by cases hq) dX12_count_182
    · exact absurd c2 (by decide)
  · exact absurd c1 (by decide)
