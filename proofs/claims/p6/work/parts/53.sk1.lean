/-! ===== sk1 ===== -/
set_option maxHeartbeats 4000000 in
set_option maxRecDepth 100000 in
/-- X10_get -/
theorem c_X10_get_x (l : Launch) (dC : Nat → ClassId) (dI : Nat → Nat → Nat) (h : Nat) (g : Nat → Nat → Nat) (ca : Nat → Nat → ClassId) (iv : Nat → Nat → Int32) (lv : Nat → Nat → Int64) (fa : Nat → Nat → Nat → Int32) (la : Nat → Nat → Nat → Int64) (hI : IX iv fa) (a : Int32) (b : Int32) (h_a : 0 ≤ a.toInt ∧ a.toInt ≤ 59) (h_b : 0 ≤ b.toInt ∧ b.toInt ≤ 8) : Met l yX10_get (wc yX10_get cX10_get 3 (some .int)) ({ frames := 0, cells := 0, slots := 0, locals := 0 } : Room) (pR (dC, dI) classes (WX h g ca iv lv fa la) (TX ca) [.ref (g 11 0), .int a, .int b]) (vp_Si (fun r => (True) ∧ (r.toInt = ((fa 10 0) (9 * (a.toInt).toNat + (b.toInt).toNat)).toInt))) 0 0 (fun _ => False) := by
  refine Met.ofW (cc := cX10_get) (maxL := 3) (ret := (some .int)) (by decide) rfl ?_
  intro p e s m args below meth c s₁ B hml hv
  obtain ⟨rfl, hP, hK⟩ := hv
  have hx := B.exec
  have hb := B.bytes
  have hr := B.returns
  have ht := tb_tl (atoms_spec (ws := wc yX10_get cX10_get 3 (some .int)) B.pre)
  have hown : s.vm.findClass RX10 = some m.cls := findClass_of_methodNamed B.named
  have hlocks := B.notSynchronized
  have hl := lv_entry [.ref (g 11 0), .int a, .int b] (n := 3) (Nat.le_of_ble_eq_true rfl)
  rw [lg_entry_eq]
  generalize (lg_sl [.ref (g 11 0), .int a, .int b] ++ List.replicate (3 - (lg_sl [.ref (g 11 0), .int a, .int b]).length) Slot.unset).toArray = ls at hl ⊢
  have hl : lv_has ls 3 [(0, .ref (g 11 0)), (1, .int a), (2, .int b)] := hl
  refine lv_aload_n hx hb dX10_get_0 rfl (lv_at hl 0 rfl) ?_
  refine gX_10_0 hx hb ht hown hK hP m_111 dX10_get_1 ?_
  refine lv_iload_n hx hb dX10_get_4 rfl (lv_at hl 1 rfl) ?_
  refine lv_bipush (v := 9) hx hb dX10_get_5 (by decide) ?_
  refine lv_imul hx hb dX10_get_7 ?_
  refine lv_topi (fun v1 ev1 => ?_)
  have tv1 := z_mul ev1 (rfl : (a).toInt = _) (by decide : (9 : Int32).toInt = 9) (by omega) (by omega)
  refine lv_iload_n hx hb dX10_get_8 rfl (lv_at hl 2 rfl) ?_
  refine lv_iadd hx hb dX10_get_9 ?_
  refine lv_topi (fun v2 ev2 => ?_)
  have tv2 := z_add ev2 (rfl : (v1).toInt = _) (rfl : (b).toInt = _) (by omega) (by omega)
  refine lX_10_0 hx hb hK hP (f := (fa 10 0)) rfl (vp_in_iff.mpr ⟨by omega, by omega⟩) dX10_get_10 ?_
  refine lv_topi (fun v3 ev3 => ?_)
  exact W.iret (v := v3) hx hb hr (fun t ht9 hW => ⟨v3, rfl, ⟨trivial, (show (v3 : Int32).toInt = ((fa 10 0) (9 * ((a).toInt).toNat + ((b).toInt).toNat)).toInt from (by have h1 := congrArg Int32.toInt ev3; have h2 : (v2 : Int32).toNatClampNeg = 9 * (a.toInt).toNat + (b.toInt).toNat := (by show (v2 : Int32).toInt.toNat = _; omega); rw [h2] at h1; exact h1))⟩, ht9⟩) (fun q hq => by cases hq) dX10_get_11
set_option maxHeartbeats 4000000 in
set_option maxRecDepth 100000 in
/-- X10_get -/
theorem c_X10_get_x0 (l : Launch) (dC : Nat → ClassId) (dI : Nat → Nat → Nat) (h : Nat) (g : Nat → Nat → Nat) (ca : Nat → Nat → ClassId) (iv : Nat → Nat → Int32) (lv : Nat → Nat → Int64) (fa : Nat → Nat → Nat → Int32) (la : Nat → Nat → Nat → Int64) (hI : IX iv fa) (a : Int32) (h_a : 0 ≤ a.toInt ∧ a.toInt ≤ 59) : Met l yX10_get (wc yX10_get cX10_get 3 (some .int)) ({ frames := 0, cells := 0, slots := 0, locals := 0 } : Room) (pR (dC, dI) classes (WX h g ca iv lv fa la) (TX ca) [.ref (g 11 0), .int a, .int 0]) (vp_Si (fun r => (True) ∧ (r.toInt = ((fa 10 0) (9 * (a.toInt).toNat + 0)).toInt))) 0 0 (fun _ => False) := by
  refine Met.ofW (cc := cX10_get) (maxL := 3) (ret := (some .int)) (by decide) rfl ?_
  intro p e s m args below meth c s₁ B hml hv
  obtain ⟨rfl, hP, hK⟩ := hv
  have hx := B.exec
  have hb := B.bytes
  have hr := B.returns
  have ht := tb_tl (atoms_spec (ws := wc yX10_get cX10_get 3 (some .int)) B.pre)
  have hown : s.vm.findClass RX10 = some m.cls := findClass_of_methodNamed B.named
  have hlocks := B.notSynchronized
  have hl := lv_entry [.ref (g 11 0), .int a, .int 0] (n := 3) (Nat.le_of_ble_eq_true rfl)
  rw [lg_entry_eq]
  generalize (lg_sl [.ref (g 11 0), .int a, .int 0] ++ List.replicate (3 - (lg_sl [.ref (g 11 0), .int a, .int 0]).length) Slot.unset).toArray = ls at hl ⊢
  have hl : lv_has ls 3 [(0, .ref (g 11 0)), (1, .int a), (2, .int 0)] := hl
  refine lv_aload_n hx hb dX10_get_0 rfl (lv_at hl 0 rfl) ?_
  refine gX_10_0 hx hb ht hown hK hP m_111 dX10_get_1 ?_
  refine lv_iload_n hx hb dX10_get_4 rfl (lv_at hl 1 rfl) ?_
  refine lv_bipush (v := 9) hx hb dX10_get_5 (by decide) ?_
  refine lv_imul hx hb dX10_get_7 ?_
  refine lv_topi (fun v1 ev1 => ?_)
  have tv1 := z_mul ev1 (rfl : (a).toInt = _) (by decide : (9 : Int32).toInt = 9) (by omega) (by omega)
  refine lv_iload_n hx hb dX10_get_8 rfl (lv_at hl 2 rfl) ?_
  refine lv_iadd hx hb dX10_get_9 ?_
  refine lv_topi (fun v2 ev2 => ?_)
  have tv2 := z_add ev2 (rfl : (v1).toInt = _) (by decide : (0 : Int32).toInt = 0) (by omega) (by omega)
  refine lX_10_0 hx hb hK hP (f := (fa 10 0)) rfl (vp_in_iff.mpr ⟨by omega, by omega⟩) dX10_get_10 ?_
  refine lv_topi (fun v3 ev3 => ?_)
  exact W.iret (v := v3) hx hb hr (fun t ht9 hW => ⟨v3, rfl, ⟨trivial, (show (v3 : Int32).toInt = ((fa 10 0) (9 * ((a).toInt).toNat + 0)).toInt from (by have h1 := congrArg Int32.toInt ev3; have h2 : (v2 : Int32).toNatClampNeg = 9 * (a.toInt).toNat + 0 := (by show (v2 : Int32).toInt.toNat = _; omega); rw [h2] at h1; exact h1))⟩, ht9⟩) (fun q hq => by cases hq) dX10_get_11
set_option maxHeartbeats 4000000 in
set_option maxRecDepth 100000 in
/-- X10_get -/
theorem c_X10_get_x1 (l : Launch) (dC : Nat → ClassId) (dI : Nat → Nat → Nat) (h : Nat) (g : Nat → Nat → Nat) (ca : Nat → Nat → ClassId) (iv : Nat → Nat → Int32) (lv : Nat → Nat → Int64) (fa : Nat → Nat → Nat → Int32) (la : Nat → Nat → Nat → Int64) (hI : IX iv fa) (a : Int32) (h_a : 0 ≤ a.toInt ∧ a.toInt ≤ 59) : Met l yX10_get (wc yX10_get cX10_get 3 (some .int)) ({ frames := 0, cells := 0, slots := 0, locals := 0 } : Room) (pR (dC, dI) classes (WX h g ca iv lv fa la) (TX ca) [.ref (g 11 0), .int a, .int 1]) (vp_Si (fun r => (0 ≤ r.toInt ∧ r.toInt ≤ 2) ∧ (r.toInt = ((fa 10 0) (9 * (a.toInt).toNat + 1)).toInt))) 0 0 (fun _ => False) := by
  refine Met.ofW (cc := cX10_get) (maxL := 3) (ret := (some .int)) (by decide) rfl ?_
  intro p e s m args below meth c s₁ B hml hv
  obtain ⟨rfl, hP, hK⟩ := hv
  have hx := B.exec
  have hb := B.bytes
  have hr := B.returns
  have ht := tb_tl (atoms_spec (ws := wc yX10_get cX10_get 3 (some .int)) B.pre)
  have hown : s.vm.findClass RX10 = some m.cls := findClass_of_methodNamed B.named
  have hlocks := B.notSynchronized
  have hl := lv_entry [.ref (g 11 0), .int a, .int 1] (n := 3) (Nat.le_of_ble_eq_true rfl)
  rw [lg_entry_eq]
  generalize (lg_sl [.ref (g 11 0), .int a, .int 1] ++ List.replicate (3 - (lg_sl [.ref (g 11 0), .int a, .int 1]).length) Slot.unset).toArray = ls at hl ⊢
  have hl : lv_has ls 3 [(0, .ref (g 11 0)), (1, .int a), (2, .int 1)] := hl
  refine lv_aload_n hx hb dX10_get_0 rfl (lv_at hl 0 rfl) ?_
  refine gX_10_0 hx hb ht hown hK hP m_111 dX10_get_1 ?_
  refine lv_iload_n hx hb dX10_get_4 rfl (lv_at hl 1 rfl) ?_
  refine lv_bipush (v := 9) hx hb dX10_get_5 (by decide) ?_
  refine lv_imul hx hb dX10_get_7 ?_
  refine lv_topi (fun v1 ev1 => ?_)
  have tv1 := z_mul ev1 (rfl : (a).toInt = _) (by decide : (9 : Int32).toInt = 9) (by omega) (by omega)
  refine lv_iload_n hx hb dX10_get_8 rfl (lv_at hl 2 rfl) ?_
  refine lv_iadd hx hb dX10_get_9 ?_
  refine lv_topi (fun v2 ev2 => ?_)
  have tv2 := z_add ev2 (rfl : (v1).toInt = _) (by decide : (1 : Int32).toInt = 1) (by omega) (by omega)
  refine lX_10_0 hx hb hK hP (f := (fa 10 0)) rfl (vp_in_iff.mpr ⟨by omega, by omega⟩) dX10_get_10 ?_
  refine lv_topi (fun v3 ev3 => ?_)
  have tv3 : 0 ≤ v3.toInt ∧ v3.toInt ≤ 2 := by rw [ev3]; exact row_r (hI.2 10 0 _) (row_i (a := a.toInt) (c := 1) (by omega) (by omega) (by omega))
  exact W.iret (v := v3) hx hb hr (fun t ht9 hW => ⟨v3, rfl, ⟨⟨by omega, by omega⟩, (show (v3 : Int32).toInt = ((fa 10 0) (9 * ((a).toInt).toNat + 1)).toInt from (by have h1 := congrArg Int32.toInt ev3; have h2 : (v2 : Int32).toNatClampNeg = 9 * (a.toInt).toNat + 1 := (by show (v2 : Int32).toInt.toNat = _; omega); rw [h2] at h1; exact h1))⟩, ht9⟩) (fun q hq => by cases hq) dX10_get_11
set_option maxHeartbeats 4000000 in
set_option maxRecDepth 100000 in
/-- X10_get -/
theorem c_X10_get_x8 (l : Launch) (dC : Nat → ClassId) (dI : Nat → Nat → Nat) (h : Nat) (g : Nat → Nat → Nat) (ca : Nat → Nat → ClassId) (iv : Nat → Nat → Int32) (lv : Nat → Nat → Int64) (fa : Nat → Nat → Nat → Int32) (la : Nat → Nat → Nat → Int64) (hI : IX iv fa) (a : Int32) (h_a : 0 ≤ a.toInt ∧ a.toInt ≤ 59) : Met l yX10_get (wc yX10_get cX10_get 3 (some .int)) ({ frames := 0, cells := 0, slots := 0, locals := 0 } : Room) (pR (dC, dI) classes (WX h g ca iv lv fa la) (TX ca) [.ref (g 11 0), .int a, .int 8]) (vp_Si (fun r => (True) ∧ (r.toInt = ((fa 10 0) (9 * (a.toInt).toNat + 8)).toInt))) 0 0 (fun _ => False) := by
  refine Met.ofW (cc := cX10_get) (maxL := 3) (ret := (some .int)) (by decide) rfl ?_
  intro p e s m args below meth c s₁ B hml hv
  obtain ⟨rfl, hP, hK⟩ := hv
  have hx := B.exec
  have hb := B.bytes
  have hr := B.returns
  have ht := tb_tl (atoms_spec (ws := wc yX10_get cX10_get 3 (some .int)) B.pre)
  have hown : s.vm.findClass RX10 = some m.cls := findClass_of_methodNamed B.named
  have hlocks := B.notSynchronized
  have hl := lv_entry [.ref (g 11 0), .int a, .int 8] (n := 3) (Nat.le_of_ble_eq_true rfl)
  rw [lg_entry_eq]
  generalize (lg_sl [.ref (g 11 0), .int a, .int 8] ++ List.replicate (3 - (lg_sl [.ref (g 11 0), .int a, .int 8]).length) Slot.unset).toArray = ls at hl ⊢
  have hl : lv_has ls 3 [(0, .ref (g 11 0)), (1, .int a), (2, .int 8)] := hl
  refine lv_aload_n hx hb dX10_get_0 rfl (lv_at hl 0 rfl) ?_
  refine gX_10_0 hx hb ht hown hK hP m_111 dX10_get_1 ?_
  refine lv_iload_n hx hb dX10_get_4 rfl (lv_at hl 1 rfl) ?_
  refine lv_bipush (v := 9) hx hb dX10_get_5 (by decide) ?_
  refine lv_imul hx hb dX10_get_7 ?_
  refine lv_topi (fun v1 ev1 => ?_)
  have tv1 := z_mul ev1 (rfl : (a).toInt = _) (by decide : (9 : Int32).toInt = 9) (by omega) (by omega)
  refine lv_iload_n hx hb dX10_get_8 rfl (lv_at hl 2 rfl) ?_
  refine lv_iadd hx hb dX10_get_9 ?_
  refine lv_topi (fun v2 ev2 => ?_)
  have tv2 := z_add ev2 (rfl : (v1).toInt = _) (by decide : (8 : Int32).toInt = 8) (by omega) (by omega)
  refine lX_10_0 hx hb hK hP (f := (fa 10 0)) rfl (vp_in_iff.mpr ⟨by omega, by omega⟩) dX10_get_10 ?_
  refine lv_topi (fun v3 ev3 => ?_)
  exact W.iret (v := v3) hx hb hr (fun t ht9 hW => ⟨v3, rfl, ⟨trivial, (show (v3 : Int32).toInt = ((fa 10 0) (9 * ((a).toInt).toNat + 8)).toInt from (by have h1 := congrArg Int32.toInt ev3; have h2 : (v2 : Int32).toNatClampNeg = 9 * (a.toInt).toNat + 8 := (by show (v2 : Int32).toInt.toNat = _; omega); rw [h2] at h1; exact h1))⟩, ht9⟩) (fun q hq => by cases hq) dX10_get_11
set_option maxHeartbeats 4000000 in
set_option maxRecDepth 100000 in
/-- X10_isOf -/
theorem c_X10_isOf_x (l : Launch) (dC : Nat → ClassId) (dI : Nat → Nat → Nat) (h : Nat) (g : Nat → Nat → Nat) (ca : Nat → Nat → ClassId) (iv : Nat → Nat → Int32) (lv : Nat → Nat → Int64) (fa : Nat → Nat → Nat → Int32) (la : Nat → Nat → Nat → Int64) (hI : IX iv fa) (a : Int32) (b : Int32) (d : Int32) (h_a : 0 ≤ a.toInt ∧ a.toInt ≤ 59) : Met l yX10_isOf (wc yX10_isOf cX10_isOf 4 (some .boolean)) ({ frames := 1, cells := 0, slots := 0, locals := 22 } : Room) (pR (dC, dI) classes (WX h g ca iv lv fa la) (TX ca) [.ref (g 11 0), .int a, .int b, .int d]) (vp_Si (fun r => (0 ≤ r.toInt ∧ r.toInt ≤ 1) ∧ (((r.toInt = 1 ∧ ((fa 10 0) (9 * (a.toInt).toNat + 0)).toInt = b.toInt ∧ ((fa 10 0) (9 * (a.toInt).toNat + 1)).toInt = d.toInt) ∨ (r.toInt = 0 ∧ ¬ (((fa 10 0) (9 * (a.toInt).toNat + 0)).toInt = b.toInt ∧ ((fa 10 0) (9 * (a.toInt).toNat + 1)).toInt = d.toInt)))))) 0 0 (fun _ => False) := by
  refine Met.ofW (cc := cX10_isOf) (maxL := 4) (ret := (some .boolean)) (by decide) rfl ?_
  intro p e s m args below meth c s₁ B hml hv
  obtain ⟨rfl, hP, hK⟩ := hv
  have hx := B.exec
  have hb := B.bytes
  have hr := B.returns
  have ht := tb_tl (atoms_spec (ws := wc yX10_isOf cX10_isOf 4 (some .boolean)) B.pre)
  have hown : s.vm.findClass RX10 = some m.cls := findClass_of_methodNamed B.named
  have hlocks := B.notSynchronized
  have hl := lv_entry [.ref (g 11 0), .int a, .int b, .int d] (n := 4) (Nat.le_of_ble_eq_true rfl)
  rw [lg_entry_eq]
  generalize (lg_sl [.ref (g 11 0), .int a, .int b, .int d] ++ List.replicate (4 - (lg_sl [.ref (g 11 0), .int a, .int b, .int d]).length) Slot.unset).toArray = ls at hl ⊢
  have hl : lv_has ls 4 [(0, .ref (g 11 0)), (1, .int a), (2, .int b), (3, .int d)] := hl
  refine lv_aload_n hx hb dX10_isOf_0 rfl (lv_at hl 0 rfl) ?_
  refine lv_iload_n hx hb dX10_isOf_1 rfl (lv_at hl 1 rfl) ?_
  refine lv_iconst (v := 0) hx hb dX10_isOf_2 (by decide) ?_
  refine vp_callSi (W.runV (As := [.int a, .int 0]) (rest := []) ⟨hx, hb, hml, hown, ht⟩ (c_X10_get_x0 l dC dI h g ca iv lv fa la hI a ⟨by omega, by omega⟩) (kV 2 ht m_485 m_486 m_487 m_78 m_488 rfl rfl hd_X10_get_v ⟨Nat.le_of_ble_eq_true rfl, Nat.le_of_ble_eq_true rfl⟩) (vR hP hK (rX_10 hK hP)) rfl rfl hl.1 rfl (lv_room (Nat.le_of_ble_eq_true rfl)) dX10_isOf_3 ⟨Nat.le_of_ble_eq_true rfl, Nat.le_of_ble_eq_true rfl⟩) (fun r1 hr1 => ?_)
  obtain ⟨hr1, xr1_0⟩ := hr1
  have xr1_0 : (r1 : Int32).toInt = ((fa 10 0) (9 * ((a : Int32).toInt).toNat + 0)).toInt := xr1_0
  refine lv_iload_n hx hb dX10_isOf_6 rfl (lv_at hl 2 rfl) ?_
  refine lv_icmp_ne (tgt := 24) hx hb dX10_isOf_7 (by decide) (fun c2 => ?_) (fun c2 => ?_)
  · have fc2 := z_ne (rfl : (r1).toInt = _) (rfl : (b).toInt = _) c2
    refine lv_iconst (v := 0) hx hb dX10_isOf_24 (by decide) ?_
    have : (0 : Int32).toInt = 0 := (by decide)
    exact W.zret (v := 0) hx hb hr rfl (fun t ht9 hW => ⟨0, rfl, ⟨⟨by decide, by decide⟩, (show (((0 : Int32).toInt = 1 ∧ ((fa 10 0) (9 * ((a).toInt).toNat + 0)).toInt = (b).toInt ∧ ((fa 10 0) (9 * ((a).toInt).toNat + 1)).toInt = (d).toInt) ∨ ((0 : Int32).toInt = 0 ∧ ¬ (((fa 10 0) (9 * ((a).toInt).toNat + 0)).toInt = (b).toInt ∧ ((fa 10 0) (9 * ((a).toInt).toNat + 1)).toInt = (d).toInt))) from by omega)⟩, ht9⟩) (fun q hq => by cases hq) dX10_isOf_25
  · have fc2 := z_eq (rfl : (r1).toInt = _) (rfl : (b).toInt = _) c2
    refine lv_aload_n hx hb dX10_isOf_10 rfl (lv_at hl 0 rfl) ?_
    refine lv_iload_n hx hb dX10_isOf_11 rfl (lv_at hl 1 rfl) ?_
    refine lv_iconst (v := 1) hx hb dX10_isOf_12 (by decide) ?_
    refine vp_callSi (W.runV (As := [.int a, .int 1]) (rest := []) ⟨hx, hb, hml, hown, ht⟩ (c_X10_get_x1 l dC dI h g ca iv lv fa la hI a ⟨by omega, by omega⟩) (kV 2 ht m_485 m_486 m_487 m_78 m_488 rfl rfl hd_X10_get_v ⟨Nat.le_of_ble_eq_true rfl, Nat.le_of_ble_eq_true rfl⟩) (vR hP hK (rX_10 hK hP)) rfl rfl hl.1 rfl (lv_room (Nat.le_of_ble_eq_true rfl)) dX10_isOf_13 ⟨Nat.le_of_ble_eq_true rfl, Nat.le_of_ble_eq_true rfl⟩) (fun r3 hr3 => ?_)
    obtain ⟨hr3, xr3_0⟩ := hr3
    have xr3_0 : (r3 : Int32).toInt = ((fa 10 0) (9 * ((a : Int32).toInt).toNat + 1)).toInt := xr3_0
    refine lv_iload_n hx hb dX10_isOf_16 rfl (lv_at hl 3 rfl) ?_
    refine lv_icmp_ne (tgt := 24) hx hb dX10_isOf_17 (by decide) (fun c4 => ?_) (fun c4 => ?_)
    · have fc4 := z_ne (rfl : (r3).toInt = _) (rfl : (d).toInt = _) c4
      refine lv_iconst (v := 0) hx hb dX10_isOf_24 (by decide) ?_
      have : (0 : Int32).toInt = 0 := (by decide)
      exact W.zret (v := 0) hx hb hr rfl (fun t ht9 hW => ⟨0, rfl, ⟨⟨by decide, by decide⟩, (show (((0 : Int32).toInt = 1 ∧ ((fa 10 0) (9 * ((a).toInt).toNat + 0)).toInt = (b).toInt ∧ ((fa 10 0) (9 * ((a).toInt).toNat + 1)).toInt = (d).toInt) ∨ ((0 : Int32).toInt = 0 ∧ ¬ (((fa 10 0) (9 * ((a).toInt).toNat + 0)).toInt = (b).toInt ∧ ((fa 10 0) (9 * ((a).toInt).toNat + 1)).toInt = (d).toInt))) from by omega)⟩, ht9⟩) (fun q hq => by cases hq) dX10_isOf_25
    · have fc4 := z_eq (rfl : (r3).toInt = _) (rfl : (d).toInt = _) c4
      refine lv_iconst (v := 1) hx hb dX10_isOf_20 (by decide) ?_
      refine lv_goto (tgt := 25) hx hb dX10_isOf_21 (by decide) ?_
      have : (1 : Int32).toInt = 1 := (by decide)
      exact W.zret (v := 1) hx hb hr rfl (fun t ht9 hW => ⟨1, rfl, ⟨⟨by decide, by decide⟩, (show (((1 : Int32).toInt = 1 ∧ ((fa 10 0) (9 * ((a).toInt).toNat + 0)).toInt = (b).toInt ∧ ((fa 10 0) (9 * ((a).toInt).toNat + 1)).toInt = (d).toInt) ∨ ((1 : Int32).toInt = 0 ∧ ¬ (((fa 10 0) (9 * ((a).toInt).toNat + 0)).toInt = (b).toInt ∧ ((fa 10 0) (9 * ((a).toInt).toNat + 1)).toInt = (d).toInt))) from by omega)⟩, ht9⟩) (fun q hq => by cases hq) dX10_isOf_25
set_option maxHeartbeats 4000000 in
set_option maxRecDepth 100000 in
/-- X10_drawn -/
theorem c_X10_drawn_x (l : Launch) (dC : Nat → ClassId) (dI : Nat → Nat → Nat) (h : Nat) (g : Nat → Nat → Nat) (ca : Nat → Nat → ClassId) (iv : Nat → Nat → Int32) (lv : Nat → Nat → Int64) (fa : Nat → Nat → Nat → Int32) (la : Nat → Nat → Nat → Int64) (hI : IX iv fa) (a : Int32) (b : Int32) : Met l yX10_drawn (wc yX10_drawn cX10_drawn 5 (some .int)) ({ frames := 2, cells := 0, slots := 0, locals := 45 } : Room) (pR (dC, dI) classes (WX h g ca iv lv fa la) (TX ca) [.ref (g 11 0), .int a, .int b]) (vp_Si (fun r => (0 ≤ r.toInt ∧ r.toInt ≤ 79) ∧ (r.toInt = ((cn0 (fun s => (fa 10 0) (9 * s + 0)) (fun s => (fa 10 0) (9 * s + 1)) a b ((iv 10 1).toInt).toNat : Nat) : Int)))) 0 0 (fun _ => False) := by
  refine Met.ofW (cc := cX10_drawn) (maxL := 5) (ret := (some .int)) (by decide) rfl ?_
  intro p e s m args below meth c s₁ B hml hv
  obtain ⟨rfl, hP, hK⟩ := hv
  have hx := B.exec
  have hb := B.bytes
  have hr := B.returns
  have ht := tb_tl (atoms_spec (ws := wc yX10_drawn cX10_drawn 5 (some .int)) B.pre)
  have hown : s.vm.findClass RX10 = some m.cls := findClass_of_methodNamed B.named
  have hlocks := B.notSynchronized
  have hl := lv_entry [.ref (g 11 0), .int a, .int b] (n := 5) (Nat.le_of_ble_eq_true rfl)
  rw [lg_entry_eq]
  generalize (lg_sl [.ref (g 11 0), .int a, .int b] ++ List.replicate (5 - (lg_sl [.ref (g 11 0), .int a, .int b]).length) Slot.unset).toArray = ls at hl ⊢
  have hl : lv_has ls 5 [(0, .ref (g 11 0)), (1, .int a), (2, .int b)] := hl
  refine lv_iconst (v := 0) hx hb dX10_drawn_0 (by decide) ?_
  refine lv_istore_n (lv' := [(3, .int 0), (0, .ref (g 11 0)), (1, .int a), (2, .int b)]) hx hb dX10_drawn_1 rfl hl (by decide) rfl (fun ls hl => ?_)
  refine lv_iconst (v := 0) hx hb dX10_drawn_2 (by decide) ?_
  refine lv_istore (lv' := [(4, .int 0), (3, .int 0), (0, .ref (g 11 0)), (1, .int a), (2, .int b)]) hx hb dX10_drawn_3 hl (by decide) rfl (fun ls hl => ?_)
  have i_10_1 : 0 ≤ (iv 10 1).toInt ∧ (iv 10 1).toInt ≤ 60 := hI.1 10 1
  have lp163 : ∀ (nn163 : Nat) (x162_4 : Int32) (x162_3 : Int32), 0 ≤ x162_4.toInt ∧ x162_4.toInt ≤ 60 → 0 ≤ x162_3.toInt ∧ x162_3.toInt ≤ 79 → ((x162_3 : Int32).toInt = ((cn0 (fun s => fa 10 0 (9 * s + 0)) (fun s => fa 10 0 (9 * s + 1)) a b ((x162_4 : Int32).toInt).toNat : Nat) : Int)) → (x162_3 : Int32).toInt ≤ (x162_4 : Int32).toInt → (x162_4 : Int32).toInt ≤ ((iv 10 1) : Int32).toInt → 60 - x162_4.toInt < (nn163 : Int) → ∀ (ls : Array Slot), lv_has ls 5 [(4, .int x162_4), (3, .int x162_3), (0, .ref (g 11 0)), (1, .int a), (2, .int b)] → W p l e ({ frames := 2, cells := 0, slots := 0, locals := 45 } : Room) s m ([.ref (g 11 0), .int a, .int b] : List Value).toArray below meth c s.heap [] 0 0 (MQ below (vp_Si (fun r => (0 ≤ r.toInt ∧ r.toInt ≤ 79) ∧ (r.toInt = ((cn0 (fun s => (fa 10 0) (9 * s + 0)) (fun s => (fa 10 0) (9 * s + 1)) a b ((iv 10 1).toInt).toNat : Nat) : Int)))) ([.ref (g 11 0), .int a, .int b] : List Value).toArray s 0 0 (fun _ => False)) (F0 m 5 ls []) := by
    intro nn163
    induction nn163 with
    | zero => intro x162_4 x162_3 hx162_4 hx162_3 hq163_0 hq163_1 hq163_2 hm163; exfalso; omega
    | succ nn163 ih163 =>
      intro x162_4 x162_3 hx162_4 hx162_3 hq163_0 hq163_1 hq163_2 hm163 ls hl
      refine lv_iload hx hb dX10_drawn_5 (lv_at hl 0 rfl) ?_
      refine lv_aload_n hx hb dX10_drawn_7 rfl (lv_at hl 2 rfl) ?_
      refine gX_10_1 hx hb ht hown hK hP m_112 (v := (iv 10 1)) rfl dX10_drawn_8 ?_
      refine lv_icmp_ge (tgt := 34) hx hb dX10_drawn_11 (by decide) (fun c164 => ?_) (fun c164 => ?_)
      · have fc164 := z_le (rfl : ((iv 10 1)).toInt = _) (rfl : (x162_4).toInt = _) c164
        refine lv_iload_n hx hb dX10_drawn_34 rfl (lv_at hl 1 rfl) ?_
        exact W.iret (v := x162_3) hx hb hr (fun t ht9 hW => ⟨x162_3, rfl, ⟨⟨by omega, by omega⟩, (show (x162_3 : Int32).toInt = ((cn0 (fun s => (fa 10 0) (9 * s + 0)) (fun s => (fa 10 0) (9 * s + 1)) a b (((iv 10 1) : Int32).toInt).toNat : Nat) : Int) from (by have hq9 := hq163_0; have he9 : (x162_4 : Int32).toInt = (iv 10 1).toInt := (by omega); rw [he9] at hq9; exact hq9))⟩, ht9⟩) (fun q hq => by cases hq) dX10_drawn_35
      · have fc164 := z_nle (rfl : ((iv 10 1)).toInt = _) (rfl : (x162_4).toInt = _) c164
        refine lv_aload_n hx hb dX10_drawn_14 rfl (lv_at hl 2 rfl) ?_
        refine lv_iload hx hb dX10_drawn_15 (lv_at hl 0 rfl) ?_
        refine lv_iload_n hx hb dX10_drawn_17 rfl (lv_at hl 3 rfl) ?_
        refine lv_iload_n hx hb dX10_drawn_18 rfl (lv_at hl 4 rfl) ?_
        refine vp_callSi (W.runV (As := [.int x162_4, .int a, .int b]) (rest := []) ⟨hx, hb, hml, hown, ht⟩ (c_X10_isOf_x l dC dI h g ca iv lv fa la hI x162_4 a b ⟨by omega, by omega⟩) (kV 3 ht m_481 m_482 m_483 m_78 m_484 rfl rfl hd_X10_isOf_v ⟨Nat.le_of_ble_eq_true rfl, Nat.le_of_ble_eq_true rfl⟩) (vR hP hK (rX_10 hK hP)) rfl rfl hl.1 rfl (lv_room (Nat.le_of_ble_eq_true rfl)) dX10_drawn_19 ⟨Nat.le_of_ble_eq_true rfl, Nat.le_of_ble_eq_true rfl⟩) (fun r165 hr165 => ?_)
        obtain ⟨hr165, xr165_0⟩ := hr165
        have xr165_0 : (((r165 : Int32).toInt = 1 ∧ ((fa 10 0) (9 * ((x162_4 : Int32).toInt).toNat + 0)).toInt = (a : Int32).toInt ∧ ((fa 10 0) (9 * ((x162_4 : Int32).toInt).toNat + 1)).toInt = (b : Int32).toInt) ∨ ((r165 : Int32).toInt = 0 ∧ ¬ (((fa 10 0) (9 * ((x162_4 : Int32).toInt).toNat + 0)).toInt = (a : Int32).toInt ∧ ((fa 10 0) (9 * ((x162_4 : Int32).toInt).toNat + 1)).toInt = (b : Int32).toInt))) := xr165_0
        refine lv_if_eq (tgt := 28) hx hb dX10_drawn_22 (by decide) (fun c166 => ?_) (fun c166 => ?_)
        · have fc166 := z_eq (rfl : (r165).toInt = _) (by decide : (0 : Int32).toInt = 0) c166
          obtain ⟨v167, ev167⟩ : ∃ y : Int32, y = x162_4 + 1 := ⟨_, rfl⟩
          have tv167 := z_add ev167 rfl (by decide : (1 : Int32).toInt = 1) (by omega) (by omega)
          refine lv_iinc (v := v167) (lv' := [(4, .int v167), (3, .int x162_3), (0, .ref (g 11 0)), (1, .int a), (2, .int b)]) hx hb dX10_drawn_28 hl (k := 0) rfl (by rw [ev167]; rfl) (by decide) rfl (fun ls hl => ?_)
          refine lv_goto (tgt := 5) hx hb dX10_drawn_31 (by decide) ?_
          exact ih163 v167 x162_3 ⟨by omega, by omega⟩ ⟨by omega, by omega⟩ (show (x162_3 : Int32).toInt = ((cn0 (fun s => fa 10 0 (9 * s + 0)) (fun s => fa 10 0 (9 * s + 1)) a b ((v167 : Int32).toInt).toNat : Nat) : Int) from (by have hc := cn0_step (ob := fun s => fa 10 0 (9 * s + 0)) (ol := fun s => fa 10 0 (9 * s + 1)) (b := a) (l := b) (s := x162_4) (s' := v167) (x := fa 10 0 (9 * (x162_4 : Int32).toInt.toNat + 0)) (y := fa 10 0 (9 * (x162_4 : Int32).toInt.toNat + 1)) (by omega) (by omega) rfl rfl; have hq9 := hq163_0; rw [hc]; split <;> omega)) (show (x162_3 : Int32).toInt ≤ (v167 : Int32).toInt from by omega) (show (v167 : Int32).toInt ≤ ((iv 10 1) : Int32).toInt from by omega) (by omega) ls (lv_sub hl [0, 1, 2, 3, 4] rfl)
        · have fc166 := z_ne (rfl : (r165).toInt = _) (by decide : (0 : Int32).toInt = 0) c166
          have : 0 ≤ (x162_3 : Int32).toInt ∧ (x162_3 : Int32).toInt ≤ 60 := ⟨by omega, by omega⟩
          obtain ⟨v168, ev168⟩ : ∃ y : Int32, y = x162_3 + 1 := ⟨_, rfl⟩
          have tv168 := z_add ev168 rfl (by decide : (1 : Int32).toInt = 1) (by omega) (by omega)
          refine lv_iinc (v := v168) (lv' := [(3, .int v168), (4, .int x162_4), (0, .ref (g 11 0)), (1, .int a), (2, .int b)]) hx hb dX10_drawn_25 hl (k := 1) rfl (by rw [ev168]; rfl) (by decide) rfl (fun ls hl => ?_)
          obtain ⟨v169, ev169⟩ : ∃ y : Int32, y = x162_4 + 1 := ⟨_, rfl⟩
          have tv169 := z_add ev169 rfl (by decide : (1 : Int32).toInt = 1) (by omega) (by omega)
          refine lv_iinc (v := v169) (lv' := [(4, .int v169), (3, .int v168), (0, .ref (g 11 0)), (1, .int a), (2, .int b)]) hx hb dX10_drawn_28 hl (k := 1) rfl (by rw [ev169]; rfl) (by decide) rfl (fun ls hl => ?_)
          refine lv_goto (tgt := 5) hx hb dX10_drawn_31 (by decide) ?_
          exact ih163 v169 v168 ⟨by omega, by omega⟩ ⟨by omega, by omega⟩ (show (v168 : Int32).toInt = ((cn0 (fun s => fa 10 0 (9 * s + 0)) (fun s => fa 10 0 (9 * s + 1)) a b ((v169 : Int32).toInt).toNat : Nat) : Int) from (by have hc := cn0_step (ob := fun s => fa 10 0 (9 * s + 0)) (ol := fun s => fa 10 0 (9 * s + 1)) (b := a) (l := b) (s := x162_4) (s' := v169) (x := fa 10 0 (9 * (x162_4 : Int32).toInt.toNat + 0)) (y := fa 10 0 (9 * (x162_4 : Int32).toInt.toNat + 1)) (by omega) (by omega) rfl rfl; have hq9 := hq163_0; rw [hc]; split <;> omega)) (show (v168 : Int32).toInt ≤ (v169 : Int32).toInt from by omega) (show (v169 : Int32).toInt ≤ ((iv 10 1) : Int32).toInt from by omega) (by omega) ls (lv_sub hl [0, 1, 2, 3, 4] rfl)
  have : (0 : Int32).toInt = 0 := (by decide)
  have i_10_1 : 0 ≤ (iv 10 1).toInt ∧ (iv 10 1).toInt ≤ 60 := hI.1 10 1
  exact lp163 61 0 0 ⟨by decide, by decide⟩ ⟨by decide, by decide⟩ (show (0 : Int32).toInt = ((cn0 (fun s => fa 10 0 (9 * s + 0)) (fun s => fa 10 0 (9 * s + 1)) a b ((0 : Int32).toInt).toNat : Nat) : Int) from by show _ = ((0 : Nat) : Int); omega) (show (0 : Int32).toInt ≤ (0 : Int32).toInt from by omega) (show (0 : Int32).toInt ≤ ((iv 10 1) : Int32).toInt from by omega) (by first | decide | omega) ls (lv_sub hl [0, 1, 2, 3, 4] rfl)
set_option maxHeartbeats 4000000 in
set_option maxRecDepth 100000 in
/-- X10_set -/
theorem c_X10_set_x0 (l : Launch) (dC : Nat → ClassId) (dI : Nat → Nat → Nat) (sz : Nat) (h : Nat) (g : Nat → Nat → Nat) (ca : Nat → Nat → ClassId) (iv : Nat → Nat → Int32) (lv : Nat → Nat → Int64) (fa : Nat → Nat → Nat → Int32) (la : Nat → Nat → Nat → Int64) (hI : IX iv fa) (a : Int32) (d : Int32) (h_a : 0 ≤ a.toInt ∧ a.toInt ≤ 59) : Met l yX10_set (wc yX10_set cX10_set 4 none) ({ frames := 0, cells := 0, slots := 0, locals := 0 } : Room) (pW (dC, dI) classes (WX h g ca iv lv fa la) (TX ca) sz [.ref (g 11 0), .int a, .int 0, .int d]) (va_Qv (fun (u : SS) => ∃ (na_10_0 : Nat → Int32), (∀ j, inb (bA 10 0 j) (na_10_0 j)) ∧ (∀ j : Nat, j ≠ (9 * (a.toInt).toNat + 0) → na_10_0 j = (fa 10 0) j) ∧ (na_10_0 (9 * (a.toInt).toNat + 0) = d) ∧ u = (iv, lv, (u2 fa 10 0 na_10_0), la)) (bX (dC, dI) h g ca (va_A (WX h g ca iv lv fa la) sz)) (va_A (WX h g ca iv lv fa la) sz)) 0 0 (va_A (WX h g ca iv lv fa la) sz) := by
  refine Met.ofW (cc := cX10_set) (maxL := 4) (ret := none) (by decide) rfl ?_
  intro p e s m args below meth c s₁ B hml hv
  obtain ⟨rfl, hsz, hP, hK, hD0⟩ := hv
  have hx := B.exec
  have hb := B.bytes
  have hr := B.returns
  have ht := tb_tl (atoms_spec (ws := wc yX10_set cX10_set 4 none) B.pre)
  have hown : s.vm.findClass RX10 = some m.cls := findClass_of_methodNamed B.named
  have hlocks := B.notSynchronized
  subst hsz
  have hD := hD0.self (sz := s.heap.size)
  generalize hAe : va_A (WX h g ca iv lv fa la) s.heap.size = A at hD ⊢
  have hA : ∀ q : Nat, s.heap.size ≤ q → A q := fun q h => by rw [← hAe]; exact Or.inr h
  have hS : va_S A s.heap s.heap [] := va_S.rf
  have hl := lv_entry [.ref (g 11 0), .int a, .int 0, .int d] (n := 4) (Nat.le_of_ble_eq_true rfl)
  rw [lg_entry_eq]
  generalize (lg_sl [.ref (g 11 0), .int a, .int 0, .int d] ++ List.replicate (4 - (lg_sl [.ref (g 11 0), .int a, .int 0, .int d]).length) Slot.unset).toArray = ls at hl ⊢
  have hl : lv_has ls 4 [(0, .ref (g 11 0)), (1, .int a), (2, .int 0), (3, .int d)] := hl
  refine lv_aload_n hx hb dX10_set_0 rfl (lv_at hl 0 rfl) ?_
  refine gX_10_0 hx hb ht hown hK hP m_111 dX10_set_1 ?_
  refine lv_iload_n hx hb dX10_set_4 rfl (lv_at hl 1 rfl) ?_
  refine lv_bipush (v := 9) hx hb dX10_set_5 (by decide) ?_
  refine lv_imul hx hb dX10_set_7 ?_
  refine lv_topi (fun v1 ev1 => ?_)
  have tv1 := z_mul ev1 (rfl : (a).toInt = _) (by decide : (9 : Int32).toInt = 9) (by omega) (by omega)
  refine lv_iload_n hx hb dX10_set_8 rfl (lv_at hl 2 rfl) ?_
  refine lv_iadd hx hb dX10_set_9 ?_
  refine lv_topi (fun v2 ev2 => ?_)
  have tv2 := z_add ev2 (rfl : (v1).toInt = _) (by decide : (0 : Int32).toInt = 0) (by omega) (by omega)
  refine lv_iload_n hx hb dX10_set_10 rfl (lv_at hl 3 rfl) ?_
  refine tX_10_0 hx hb hK hP hD hS (f0 := (fa 10 0)) rfl (i := v2) (x := d) (vp_in_iff.mpr ⟨by omega, by omega⟩) dX10_set_11 (fun f3 ef3 H locs hP hD hS => ?_)
  have hf3 : ∀ j, inb (bA 10 0 j) (f3 j) := by rw [ef3]; exact upd_b (b := bA 10 0) (hI.2 10 0) (row_n (by rw [row_i (a := a.toInt) (c := 0) (by omega) (by omega) (by omega)]; omega))
  have hP9 : va_P (dC, dI) classes (WX h g ca iv lv (u2 fa 10 0 f3) la) H := hP
  have hD9 : va_D A (WX h g ca iv lv (u2 fa 10 0 f3) la) := hD
  exact W.vret hx hb hr (fun t ht9 hW => ⟨⟨(iv, lv, (u2 fa 10 0 f3), la), rfl, ⟨f3, hf3, (show ∀ j : Nat, j ≠ (9 * ((a).toInt).toNat + 0) → f3 j = (fa 10 0) j from fun j hj => by rw [ef3, upd_ne (by show j ≠ (v2 : Int32).toInt.toNat; omega)]), (show f3 (9 * ((a).toInt).toNat + 0) = d from (by rw [ef3, show 9 * (a.toInt).toNat + 0 = (v2 : Int32).toNatClampNeg from (by show _ = (v2 : Int32).toInt.toNat; omega)]; exact upd_eq)), rfl⟩, by rw [ht9]; exact hP9, hD9⟩, hS.F ht9⟩) hS.2.2 dX10_set_12
set_option maxHeartbeats 4000000 in
set_option maxRecDepth 100000 in
/-- X10_set -/
theorem c_X10_set_x1 (l : Launch) (dC : Nat → ClassId) (dI : Nat → Nat → Nat) (sz : Nat) (h : Nat) (g : Nat → Nat → Nat) (ca : Nat → Nat → ClassId) (iv : Nat → Nat → Int32) (lv : Nat → Nat → Int64) (fa : Nat → Nat → Nat → Int32) (la : Nat → Nat → Nat → Int64) (hI : IX iv fa) (a : Int32) (d : Int32) (h_a : 0 ≤ a.toInt ∧ a.toInt ≤ 59) (h_d : 0 ≤ d.toInt ∧ d.toInt ≤ 2) : Met l yX10_set (wc yX10_set cX10_set 4 none) ({ frames := 0, cells := 0, slots := 0, locals := 0 } : Room) (pW (dC, dI) classes (WX h g ca iv lv fa la) (TX ca) sz [.ref (g 11 0), .int a, .int 1, .int d]) (va_Qv (fun (u : SS) => ∃ (na_10_0 : Nat → Int32), (∀ j, inb (bA 10 0 j) (na_10_0 j)) ∧ (∀ j : Nat, j ≠ (9 * (a.toInt).toNat + 1) → na_10_0 j = (fa 10 0) j) ∧ (na_10_0 (9 * (a.toInt).toNat + 1) = d) ∧ u = (iv, lv, (u2 fa 10 0 na_10_0), la)) (bX (dC, dI) h g ca (va_A (WX h g ca iv lv fa la) sz)) (va_A (WX h g ca iv lv fa la) sz)) 0 0 (va_A (WX h g ca iv lv fa la) sz) := by
  refine Met.ofW (cc := cX10_set) (maxL := 4) (ret := none) (by decide) rfl ?_
  intro p e s m args below meth c s₁ B hml hv
  obtain ⟨rfl, hsz, hP, hK, hD0⟩ := hv
  have hx := B.exec
  have hb := B.bytes
  have hr := B.returns
  have ht := tb_tl (atoms_spec (ws := wc yX10_set cX10_set 4 none) B.pre)
  have hown : s.vm.findClass RX10 = some m.cls := findClass_of_methodNamed B.named
  have hlocks := B.notSynchronized
  subst hsz
  have hD := hD0.self (sz := s.heap.size)
  generalize hAe : va_A (WX h g ca iv lv fa la) s.heap.size = A at hD ⊢
  have hA : ∀ q : Nat, s.heap.size ≤ q → A q := fun q h => by rw [← hAe]; exact Or.inr h
  have hS : va_S A s.heap s.heap [] := va_S.rf
  have hl := lv_entry [.ref (g 11 0), .int a, .int 1, .int d] (n := 4) (Nat.le_of_ble_eq_true rfl)
  rw [lg_entry_eq]
  generalize (lg_sl [.ref (g 11 0), .int a, .int 1, .int d] ++ List.replicate (4 - (lg_sl [.ref (g 11 0), .int a, .int 1, .int d]).length) Slot.unset).toArray = ls at hl ⊢
  have hl : lv_has ls 4 [(0, .ref (g 11 0)), (1, .int a), (2, .int 1), (3, .int d)] := hl
  refine lv_aload_n hx hb dX10_set_0 rfl (lv_at hl 0 rfl) ?_
  refine gX_10_0 hx hb ht hown hK hP m_111 dX10_set_1 ?_
  refine lv_iload_n hx hb dX10_set_4 rfl (lv_at hl 1 rfl) ?_
  refine lv_bipush (v := 9) hx hb dX10_set_5 (by decide) ?_
  refine lv_imul hx hb dX10_set_7 ?_
  refine lv_topi (fun v1 ev1 => ?_)
  have tv1 := z_mul ev1 (rfl : (a).toInt = _) (by decide : (9 : Int32).toInt = 9) (by omega) (by omega)
  refine lv_iload_n hx hb dX10_set_8 rfl (lv_at hl 2 rfl) ?_
  refine lv_iadd hx hb dX10_set_9 ?_
  refine lv_topi (fun v2 ev2 => ?_)
  have tv2 := z_add ev2 (rfl : (v1).toInt = _) (by decide : (1 : Int32).toInt = 1) (by omega) (by omega)
  refine lv_iload_n hx hb dX10_set_10 rfl (lv_at hl 3 rfl) ?_
  refine tX_10_0 hx hb hK hP hD hS (f0 := (fa 10 0)) rfl (i := v2) (x := d) (vp_in_iff.mpr ⟨by omega, by omega⟩) dX10_set_11 (fun f3 ef3 H locs hP hD hS => ?_)
  have hf3 : ∀ j, inb (bA 10 0 j) (f3 j) := by rw [ef3]; exact upd_b (b := bA 10 0) (hI.2 10 0) (row_l ⟨by omega, by omega⟩)
  have hP9 : va_P (dC, dI) classes (WX h g ca iv lv (u2 fa 10 0 f3) la) H := hP
  have hD9 : va_D A (WX h g ca iv lv (u2 fa 10 0 f3) la) := hD
  exact W.vret hx hb hr (fun t ht9 hW => ⟨⟨(iv, lv, (u2 fa 10 0 f3), la), rfl, ⟨f3, hf3, (show ∀ j : Nat, j ≠ (9 * ((a).toInt).toNat + 1) → f3 j = (fa 10 0) j from fun j hj => by rw [ef3, upd_ne (by show j ≠ (v2 : Int32).toInt.toNat; omega)]), (show f3 (9 * ((a).toInt).toNat + 1) = d from (by rw [ef3, show 9 * (a.toInt).toNat + 1 = (v2 : Int32).toNatClampNeg from (by show _ = (v2 : Int32).toInt.toNat; omega)]; exact upd_eq)), rfl⟩, by rw [ht9]; exact hP9, hD9⟩, hS.F ht9⟩) hS.2.2 dX10_set_12
set_option maxHeartbeats 4000000 in
set_option maxRecDepth 100000 in
/-- X10_set -/
theorem c_X10_set_x2 (l : Launch) (dC : Nat → ClassId) (dI : Nat → Nat → Nat) (sz : Nat) (h : Nat) (g : Nat → Nat → Nat) (ca : Nat → Nat → ClassId) (iv : Nat → Nat → Int32) (lv : Nat → Nat → Int64) (fa : Nat → Nat → Nat → Int32) (la : Nat → Nat → Nat → Int64) (hI : IX iv fa) (a : Int32) (d : Int32) (h_a : 0 ≤ a.toInt ∧ a.toInt ≤ 59) : Met l yX10_set (wc yX10_set cX10_set 4 none) ({ frames := 0, cells := 0, slots := 0, locals := 0 } : Room) (pW (dC, dI) classes (WX h g ca iv lv fa la) (TX ca) sz [.ref (g 11 0), .int a, .int 2, .int d]) (va_Qv (fun (u : SS) => ∃ (na_10_0 : Nat → Int32), (∀ j, inb (bA 10 0 j) (na_10_0 j)) ∧ (∀ j : Nat, j ≠ (9 * (a.toInt).toNat + 2) → na_10_0 j = (fa 10 0) j) ∧ (na_10_0 (9 * (a.toInt).toNat + 2) = d) ∧ u = (iv, lv, (u2 fa 10 0 na_10_0), la)) (bX (dC, dI) h g ca (va_A (WX h g ca iv lv fa la) sz)) (va_A (WX h g ca iv lv fa la) sz)) 0 0 (va_A (WX h g ca iv lv fa la) sz) := by
  refine Met.ofW (cc := cX10_set) (maxL := 4) (ret := none) (by decide) rfl ?_
  intro p e s m args below meth c s₁ B hml hv
  obtain ⟨rfl, hsz, hP, hK, hD0⟩ := hv
  have hx := B.exec
  have hb := B.bytes
  have hr := B.returns
  have ht := tb_tl (atoms_spec (ws := wc yX10_set cX10_set 4 none) B.pre)
  have hown : s.vm.findClass RX10 = some m.cls := findClass_of_methodNamed B.named
  have hlocks := B.notSynchronized
  subst hsz
  have hD := hD0.self (sz := s.heap.size)
  generalize hAe : va_A (WX h g ca iv lv fa la) s.heap.size = A at hD ⊢
  have hA : ∀ q : Nat, s.heap.size ≤ q → A q := fun q h => by rw [← hAe]; exact Or.inr h
  have hS : va_S A s.heap s.heap [] := va_S.rf
  have hl := lv_entry [.ref (g 11 0), .int a, .int 2, .int d] (n := 4) (Nat.le_of_ble_eq_true rfl)
  rw [lg_entry_eq]
  generalize (lg_sl [.ref (g 11 0), .int a, .int 2, .int d] ++ List.replicate (4 - (lg_sl [.ref (g 11 0), .int a, .int 2, .int d]).length) Slot.unset).toArray = ls at hl ⊢
  have hl : lv_has ls 4 [(0, .ref (g 11 0)), (1, .int a), (2, .int 2), (3, .int d)] := hl
  refine lv_aload_n hx hb dX10_set_0 rfl (lv_at hl 0 rfl) ?_
  refine gX_10_0 hx hb ht hown hK hP m_111 dX10_set_1 ?_
  refine lv_iload_n hx hb dX10_set_4 rfl (lv_at hl 1 rfl) ?_
  refine lv_bipush (v := 9) hx hb dX10_set_5 (by decide) ?_
  refine lv_imul hx hb dX10_set_7 ?_
  refine lv_topi (fun v1 ev1 => ?_)
  have tv1 := z_mul ev1 (rfl : (a).toInt = _) (by decide : (9 : Int32).toInt = 9) (by omega) (by omega)
  refine lv_iload_n hx hb dX10_set_8 rfl (lv_at hl 2 rfl) ?_
  refine lv_iadd hx hb dX10_set_9 ?_
  refine lv_topi (fun v2 ev2 => ?_)
  have tv2 := z_add ev2 (rfl : (v1).toInt = _) (by decide : (2 : Int32).toInt = 2) (by omega) (by omega)
  refine lv_iload_n hx hb dX10_set_10 rfl (lv_at hl 3 rfl) ?_
  refine tX_10_0 hx hb hK hP hD hS (f0 := (fa 10 0)) rfl (i := v2) (x := d) (vp_in_iff.mpr ⟨by omega, by omega⟩) dX10_set_11 (fun f3 ef3 H locs hP hD hS => ?_)
  have hf3 : ∀ j, inb (bA 10 0 j) (f3 j) := by rw [ef3]; exact upd_b (b := bA 10 0) (hI.2 10 0) (row_n (by rw [row_i (a := a.toInt) (c := 2) (by omega) (by omega) (by omega)]; omega))
  have hP9 : va_P (dC, dI) classes (WX h g ca iv lv (u2 fa 10 0 f3) la) H := hP
  have hD9 : va_D A (WX h g ca iv lv (u2 fa 10 0 f3) la) := hD
  exact W.vret hx hb hr (fun t ht9 hW => ⟨⟨(iv, lv, (u2 fa 10 0 f3), la), rfl, ⟨f3, hf3, (show ∀ j : Nat, j ≠ (9 * ((a).toInt).toNat + 2) → f3 j = (fa 10 0) j from fun j hj => by rw [ef3, upd_ne (by show j ≠ (v2 : Int32).toInt.toNat; omega)]), (show f3 (9 * ((a).toInt).toNat + 2) = d from (by rw [ef3, show 9 * (a.toInt).toNat + 2 = (v2 : Int32).toNatClampNeg from (by show _ = (v2 : Int32).toInt.toNat; omega)]; exact upd_eq)), rfl⟩, by rw [ht9]; exact hP9, hD9⟩, hS.F ht9⟩) hS.2.2 dX10_set_12
set_option maxHeartbeats 4000000 in
set_option maxRecDepth 100000 in
/-- X10_set -/
theorem c_X10_set_x3 (l : Launch) (dC : Nat → ClassId) (dI : Nat → Nat → Nat) (sz : Nat) (h : Nat) (g : Nat → Nat → Nat) (ca : Nat → Nat → ClassId) (iv : Nat → Nat → Int32) (lv : Nat → Nat → Int64) (fa : Nat → Nat → Nat → Int32) (la : Nat → Nat → Nat → Int64) (hI : IX iv fa) (a : Int32) (d : Int32) (h_a : 0 ≤ a.toInt ∧ a.toInt ≤ 59) : Met l yX10_set (wc yX10_set cX10_set 4 none) ({ frames := 0, cells := 0, slots := 0, locals := 0 } : Room) (pW (dC, dI) classes (WX h g ca iv lv fa la) (TX ca) sz [.ref (g 11 0), .int a, .int 3, .int d]) (va_Qv (fun (u : SS) => ∃ (na_10_0 : Nat → Int32), (∀ j, inb (bA 10 0 j) (na_10_0 j)) ∧ (∀ j : Nat, j ≠ (9 * (a.toInt).toNat + 3) → na_10_0 j = (fa 10 0) j) ∧ (na_10_0 (9 * (a.toInt).toNat + 3) = d) ∧ u = (iv, lv, (u2 fa 10 0 na_10_0), la)) (bX (dC, dI) h g ca (va_A (WX h g ca iv lv fa la) sz)) (va_A (WX h g ca iv lv fa la) sz)) 0 0 (va_A (WX h g ca iv lv fa la) sz) := by
  refine Met.ofW (cc := cX10_set) (maxL := 4) (ret := none) (by decide) rfl ?_
  intro p e s m args below meth c s₁ B hml hv
  obtain ⟨rfl, hsz, hP, hK, hD0⟩ := hv
  have hx := B.exec
  have hb := B.bytes
  have hr := B.returns
  have ht := tb_tl (atoms_spec (ws := wc yX10_set cX10_set 4 none) B.pre)
  have hown : s.vm.findClass RX10 = some m.cls := findClass_of_methodNamed B.named
  have hlocks := B.notSynchronized
  subst hsz
  have hD := hD0.self (sz := s.heap.size)
  generalize hAe : va_A (WX h g ca iv lv fa la) s.heap.size = A at hD ⊢
  have hA : ∀ q : Nat, s.heap.size ≤ q → A q := fun q h => by rw [← hAe]; exact Or.inr h
  have hS : va_S A s.heap s.heap [] := va_S.rf
  have hl := lv_entry [.ref (g 11 0), .int a, .int 3, .int d] (n := 4) (Nat.le_of_ble_eq_true rfl)
  rw [lg_entry_eq]
  generalize (lg_sl [.ref (g 11 0), .int a, .int 3, .int d] ++ List.replicate (4 - (lg_sl [.ref (g 11 0), .int a, .int 3, .int d]).length) Slot.unset).toArray = ls at hl ⊢
  have hl : lv_has ls 4 [(0, .ref (g 11 0)), (1, .int a), (2, .int 3), (3, .int d)] := hl
  refine lv_aload_n hx hb dX10_set_0 rfl (lv_at hl 0 rfl) ?_
  refine gX_10_0 hx hb ht hown hK hP m_111 dX10_set_1 ?_
  refine lv_iload_n hx hb dX10_set_4 rfl (lv_at hl 1 rfl) ?_
  refine lv_bipush (v := 9) hx hb dX10_set_5 (by decide) ?_
  refine lv_imul hx hb dX10_set_7 ?_
  refine lv_topi (fun v1 ev1 => ?_)
  have tv1 := z_mul ev1 (rfl : (a).toInt = _) (by decide : (9 : Int32).toInt = 9) (by omega) (by omega)
  refine lv_iload_n hx hb dX10_set_8 rfl (lv_at hl 2 rfl) ?_
  refine lv_iadd hx hb dX10_set_9 ?_
  refine lv_topi (fun v2 ev2 => ?_)
  have tv2 := z_add ev2 (rfl : (v1).toInt = _) (by decide : (3 : Int32).toInt = 3) (by omega) (by omega)
  refine lv_iload_n hx hb dX10_set_10 rfl (lv_at hl 3 rfl) ?_
  refine tX_10_0 hx hb hK hP hD hS (f0 := (fa 10 0)) rfl (i := v2) (x := d) (vp_in_iff.mpr ⟨by omega, by omega⟩) dX10_set_11 (fun f3 ef3 H locs hP hD hS => ?_)
  have hf3 : ∀ j, inb (bA 10 0 j) (f3 j) := by rw [ef3]; exact upd_b (b := bA 10 0) (hI.2 10 0) (row_n (by rw [row_i (a := a.toInt) (c := 3) (by omega) (by omega) (by omega)]; omega))
  have hP9 : va_P (dC, dI) classes (WX h g ca iv lv (u2 fa 10 0 f3) la) H := hP
  have hD9 : va_D A (WX h g ca iv lv (u2 fa 10 0 f3) la) := hD
  exact W.vret hx hb hr (fun t ht9 hW => ⟨⟨(iv, lv, (u2 fa 10 0 f3), la), rfl, ⟨f3, hf3, (show ∀ j : Nat, j ≠ (9 * ((a).toInt).toNat + 3) → f3 j = (fa 10 0) j from fun j hj => by rw [ef3, upd_ne (by show j ≠ (v2 : Int32).toInt.toNat; omega)]), (show f3 (9 * ((a).toInt).toNat + 3) = d from (by rw [ef3, show 9 * (a.toInt).toNat + 3 = (v2 : Int32).toNatClampNeg from (by show _ = (v2 : Int32).toInt.toNat; omega)]; exact upd_eq)), rfl⟩, by rw [ht9]; exact hP9, hD9⟩, hS.F ht9⟩) hS.2.2 dX10_set_12
set_option maxHeartbeats 4000000 in
set_option maxRecDepth 100000 in
/-- X10_set -/
theorem c_X10_set_x4 (l : Launch) (dC : Nat → ClassId) (dI : Nat → Nat → Nat) (sz : Nat) (h : Nat) (g : Nat → Nat → Nat) (ca : Nat → Nat → ClassId) (iv : Nat → Nat → Int32) (lv : Nat → Nat → Int64) (fa : Nat → Nat → Nat → Int32) (la : Nat → Nat → Nat → Int64) (hI : IX iv fa) (a : Int32) (d : Int32) (h_a : 0 ≤ a.toInt ∧ a.toInt ≤ 59) : Met l yX10_set (wc yX10_set cX10_set 4 none) ({ frames := 0, cells := 0, slots := 0, locals := 0 } : Room) (pW (dC, dI) classes (WX h g ca iv lv fa la) (TX ca) sz [.ref (g 11 0), .int a, .int 4, .int d]) (va_Qv (fun (u : SS) => ∃ (na_10_0 : Nat → Int32), (∀ j, inb (bA 10 0 j) (na_10_0 j)) ∧ (∀ j : Nat, j ≠ (9 * (a.toInt).toNat + 4) → na_10_0 j = (fa 10 0) j) ∧ (na_10_0 (9 * (a.toInt).toNat + 4) = d) ∧ u = (iv, lv, (u2 fa 10 0 na_10_0), la)) (bX (dC, dI) h g ca (va_A (WX h g ca iv lv fa la) sz)) (va_A (WX h g ca iv lv fa la) sz)) 0 0 (va_A (WX h g ca iv lv fa la) sz) := by
  refine Met.ofW (cc := cX10_set) (maxL := 4) (ret := none) (by decide) rfl ?_
  intro p e s m args below meth c s₁ B hml hv
  obtain ⟨rfl, hsz, hP, hK, hD0⟩ := hv
  have hx := B.exec
  have hb := B.bytes
  have hr := B.returns
  have ht := tb_tl (atoms_spec (ws := wc yX10_set cX10_set 4 none) B.pre)
  have hown : s.vm.findClass RX10 = some m.cls := findClass_of_methodNamed B.named
  have hlocks := B.notSynchronized
  subst hsz
  have hD := hD0.self (sz := s.heap.size)
  generalize hAe : va_A (WX h g ca iv lv fa la) s.heap.size = A at hD ⊢
  have hA : ∀ q : Nat, s.heap.size ≤ q → A q := fun q h => by rw [← hAe]; exact Or.inr h
  have hS : va_S A s.heap s.heap [] := va_S.rf
  have hl := lv_entry [.ref (g 11 0), .int a, .int 4, .int d] (n := 4) (Nat.le_of_ble_eq_true rfl)
  rw [lg_entry_eq]
  generalize (lg_sl [.ref (g 11 0), .int a, .int 4, .int d] ++ List.replicate (4 - (lg_sl [.ref (g 11 0), .int a, .int 4, .int d]).length) Slot.unset).toArray = ls at hl ⊢
  have hl : lv_has ls 4 [(0, .ref (g 11 0)), (1, .int a), (2, .int 4), (3, .int d)] := hl
  refine lv_aload_n hx hb dX10_set_0 rfl (lv_at hl 0 rfl) ?_
  refine gX_10_0 hx hb ht hown hK hP m_111 dX10_set_1 ?_
  refine lv_iload_n hx hb dX10_set_4 rfl (lv_at hl 1 rfl) ?_
  refine lv_bipush (v := 9) hx hb dX10_set_5 (by decide) ?_
  refine lv_imul hx hb dX10_set_7 ?_
  refine lv_topi (fun v1 ev1 => ?_)
  have tv1 := z_mul ev1 (rfl : (a).toInt = _) (by decide : (9 : Int32).toInt = 9) (by omega) (by omega)
  refine lv_iload_n hx hb dX10_set_8 rfl (lv_at hl 2 rfl) ?_
  refine lv_iadd hx hb dX10_set_9 ?_
  refine lv_topi (fun v2 ev2 => ?_)
  have tv2 := z_add ev2 (rfl : (v1).toInt = _) (by decide : (4 : Int32).toInt = 4) (by omega) (by omega)
  refine lv_iload_n hx hb dX10_set_10 rfl (lv_at hl 3 rfl) ?_
  refine tX_10_0 hx hb hK hP hD hS (f0 := (fa 10 0)) rfl (i := v2) (x := d) (vp_in_iff.mpr ⟨by omega, by omega⟩) dX10_set_11 (fun f3 ef3 H locs hP hD hS => ?_)
  have hf3 : ∀ j, inb (bA 10 0 j) (f3 j) := by rw [ef3]; exact upd_b (b := bA 10 0) (hI.2 10 0) (row_n (by rw [row_i (a := a.toInt) (c := 4) (by omega) (by omega) (by omega)]; omega))
  have hP9 : va_P (dC, dI) classes (WX h g ca iv lv (u2 fa 10 0 f3) la) H := hP
  have hD9 : va_D A (WX h g ca iv lv (u2 fa 10 0 f3) la) := hD
  exact W.vret hx hb hr (fun t ht9 hW => ⟨⟨(iv, lv, (u2 fa 10 0 f3), la), rfl, ⟨f3, hf3, (show ∀ j : Nat, j ≠ (9 * ((a).toInt).toNat + 4) → f3 j = (fa 10 0) j from fun j hj => by rw [ef3, upd_ne (by show j ≠ (v2 : Int32).toInt.toNat; omega)]), (show f3 (9 * ((a).toInt).toNat + 4) = d from (by rw [ef3, show 9 * (a.toInt).toNat + 4 = (v2 : Int32).toNatClampNeg from (by show _ = (v2 : Int32).toInt.toNat; omega)]; exact upd_eq)), rfl⟩, by rw [ht9]; exact hP9, hD9⟩, hS.F ht9⟩) hS.2.2 dX10_set_12
set_option maxHeartbeats 4000000 in
set_option maxRecDepth 100000 in
/-- X10_set -/
theorem c_X10_set_x5 (l : Launch) (dC : Nat → ClassId) (dI : Nat → Nat → Nat) (sz : Nat) (h : Nat) (g : Nat → Nat → Nat) (ca : Nat → Nat → ClassId) (iv : Nat → Nat → Int32) (lv : Nat → Nat → Int64) (fa : Nat → Nat → Nat → Int32) (la : Nat → Nat → Nat → Int64) (hI : IX iv fa) (a : Int32) (d : Int32) (h_a : 0 ≤ a.toInt ∧ a.toInt ≤ 59) : Met l yX10_set (wc yX10_set cX10_set 4 none) ({ frames := 0, cells := 0, slots := 0, locals := 0 } : Room) (pW (dC, dI) classes (WX h g ca iv lv fa la) (TX ca) sz [.ref (g 11 0), .int a, .int 5, .int d]) (va_Qv (fun (u : SS) => ∃ (na_10_0 : Nat → Int32), (∀ j, inb (bA 10 0 j) (na_10_0 j)) ∧ (∀ j : Nat, j ≠ (9 * (a.toInt).toNat + 5) → na_10_0 j = (fa 10 0) j) ∧ (na_10_0 (9 * (a.toInt).toNat + 5) = d) ∧ u = (iv, lv, (u2 fa 10 0 na_10_0), la)) (bX (dC, dI) h g ca (va_A (WX h g ca iv lv fa la) sz)) (va_A (WX h g ca iv lv fa la) sz)) 0 0 (va_A (WX h g ca iv lv fa la) sz) := by
  refine Met.ofW (cc := cX10_set) (maxL := 4) (ret := none) (by decide) rfl ?_
  intro p e s m args below meth c s₁ B hml hv
  obtain ⟨rfl, hsz, hP, hK, hD0⟩ := hv
  have hx := B.exec
  have hb := B.bytes
  have hr := B.returns
  have ht := tb_tl (atoms_spec (ws := wc yX10_set cX10_set 4 none) B.pre)
  have hown : s.vm.findClass RX10 = some m.cls := findClass_of_methodNamed B.named
  have hlocks := B.notSynchronized
  subst hsz
  have hD := hD0.self (sz := s.heap.size)
  generalize hAe : va_A (WX h g ca iv lv fa la) s.heap.size = A at hD ⊢
  have hA : ∀ q : Nat, s.heap.size ≤ q → A q := fun q h => by rw [← hAe]; exact Or.inr h
  have hS : va_S A s.heap s.heap [] := va_S.rf
  have hl := lv_entry [.ref (g 11 0), .int a, .int 5, .int d] (n := 4) (Nat.le_of_ble_eq_true rfl)
  rw [lg_entry_eq]
  generalize (lg_sl [.ref (g 11 0), .int a, .int 5, .int d] ++ List.replicate (4 - (lg_sl [.ref (g 11 0), .int a, .int 5, .int d]).length) Slot.unset).toArray = ls at hl ⊢
  have hl : lv_has ls 4 [(0, .ref (g 11 0)), (1, .int a), (2, .int 5), (3, .int d)] := hl
  refine lv_aload_n hx hb dX10_set_0 rfl (lv_at hl 0 rfl) ?_
  refine gX_10_0 hx hb ht hown hK hP m_111 dX10_set_1 ?_
  refine lv_iload_n hx hb dX10_set_4 rfl (lv_at hl 1 rfl) ?_
  refine lv_bipush (v := 9) hx hb dX10_set_5 (by decide) ?_
  refine lv_imul hx hb dX10_set_7 ?_
  refine lv_topi (fun v1 ev1 => ?_)
  have tv1 := z_mul ev1 (rfl : (a).toInt = _) (by decide : (9 : Int32).toInt = 9) (by omega) (by omega)
  refine lv_iload_n hx hb dX10_set_8 rfl (lv_at hl 2 rfl) ?_
  refine lv_iadd hx hb dX10_set_9 ?_
  refine lv_topi (fun v2 ev2 => ?_)
  have tv2 := z_add ev2 (rfl : (v1).toInt = _) (by decide : (5 : Int32).toInt = 5) (by omega) (by omega)
  refine lv_iload_n hx hb dX10_set_10 rfl (lv_at hl 3 rfl) ?_
  refine tX_10_0 hx hb hK hP hD hS (f0 := (fa 10 0)) rfl (i := v2) (x := d) (vp_in_iff.mpr ⟨by omega, by omega⟩) dX10_set_11 (fun f3 ef3 H locs hP hD hS => ?_)
  have hf3 : ∀ j, inb (bA 10 0 j) (f3 j) := by rw [ef3]; exact upd_b (b := bA 10 0) (hI.2 10 0) (row_n (by rw [row_i (a := a.toInt) (c := 5) (by omega) (by omega) (by omega)]; omega))
  have hP9 : va_P (dC, dI) classes (WX h g ca iv lv (u2 fa 10 0 f3) la) H := hP
  have hD9 : va_D A (WX h g ca iv lv (u2 fa 10 0 f3) la) := hD
  exact W.vret hx hb hr (fun t ht9 hW => ⟨⟨(iv, lv, (u2 fa 10 0 f3), la), rfl, ⟨f3, hf3, (show ∀ j : Nat, j ≠ (9 * ((a).toInt).toNat + 5) → f3 j = (fa 10 0) j from fun j hj => by rw [ef3, upd_ne (by show j ≠ (v2 : Int32).toInt.toNat; omega)]), (show f3 (9 * ((a).toInt).toNat + 5) = d from (by rw [ef3, show 9 * (a.toInt).toNat + 5 = (v2 : Int32).toNatClampNeg from (by show _ = (v2 : Int32).toInt.toNat; omega)]; exact upd_eq)), rfl⟩, by rw [ht9]; exact hP9, hD9⟩, hS.F ht9⟩) hS.2.2 dX10_set_12
set_option maxHeartbeats 4000000 in
set_option maxRecDepth 100000 in
/-- X10_set -/
theorem c_X10_set_x6 (l : Launch) (dC : Nat → ClassId) (dI : Nat → Nat → Nat) (sz : Nat) (h : Nat) (g : Nat → Nat → Nat) (ca : Nat → Nat → ClassId) (iv : Nat → Nat → Int32) (lv : Nat → Nat → Int64) (fa : Nat → Nat → Nat → Int32) (la : Nat → Nat → Nat → Int64) (hI : IX iv fa) (a : Int32) (d : Int32) (h_a : 0 ≤ a.toInt ∧ a.toInt ≤ 59) : Met l yX10_set (wc yX10_set cX10_set 4 none) ({ frames := 0, cells := 0, slots := 0, locals := 0 } : Room) (pW (dC, dI) classes (WX h g ca iv lv fa la) (TX ca) sz [.ref (g 11 0), .int a, .int 6, .int d]) (va_Qv (fun (u : SS) => ∃ (na_10_0 : Nat → Int32), (∀ j, inb (bA 10 0 j) (na_10_0 j)) ∧ (∀ j : Nat, j ≠ (9 * (a.toInt).toNat + 6) → na_10_0 j = (fa 10 0) j) ∧ (na_10_0 (9 * (a.toInt).toNat + 6) = d) ∧ u = (iv, lv, (u2 fa 10 0 na_10_0), la)) (bX (dC, dI) h g ca (va_A (WX h g ca iv lv fa la) sz)) (va_A (WX h g ca iv lv fa la) sz)) 0 0 (va_A (WX h g ca iv lv fa la) sz) := by
  refine Met.ofW (cc := cX10_set) (maxL := 4) (ret := none) (by decide) rfl ?_
  intro p e s m args below meth c s₁ B hml hv
  obtain ⟨rfl, hsz, hP, hK, hD0⟩ := hv
  have hx := B.exec
  have hb := B.bytes
  have hr := B.returns
  have ht := tb_tl (atoms_spec (ws := wc yX10_set cX10_set 4 none) B.pre)
  have hown : s.vm.findClass RX10 = some m.cls := findClass_of_methodNamed B.named
  have hlocks := B.notSynchronized
  subst hsz
  have hD := hD0.self (sz := s.heap.size)
  generalize hAe : va_A (WX h g ca iv lv fa la) s.heap.size = A at hD ⊢
  have hA : ∀ q : Nat, s.heap.size ≤ q → A q := fun q h => by rw [← hAe]; exact Or.inr h
  have hS : va_S A s.heap s.heap [] := va_S.rf
  have hl := lv_entry [.ref (g 11 0), .int a, .int 6, .int d] (n := 4) (Nat.le_of_ble_eq_true rfl)
  rw [lg_entry_eq]
  generalize (lg_sl [.ref (g 11 0), .int a, .int 6, .int d] ++ List.replicate (4 - (lg_sl [.ref (g 11 0), .int a, .int 6, .int d]).length) Slot.unset).toArray = ls at hl ⊢
  have hl : lv_has ls 4 [(0, .ref (g 11 0)), (1, .int a), (2, .int 6), (3, .int d)] := hl
  refine lv_aload_n hx hb dX10_set_0 rfl (lv_at hl 0 rfl) ?_
  refine gX_10_0 hx hb ht hown hK hP m_111 dX10_set_1 ?_
  refine lv_iload_n hx hb dX10_set_4 rfl (lv_at hl 1 rfl) ?_
  refine lv_bipush (v := 9) hx hb dX10_set_5 (by decide) ?_
  refine lv_imul hx hb dX10_set_7 ?_
  refine lv_topi (fun v1 ev1 => ?_)
  have tv1 := z_mul ev1 (rfl : (a).toInt = _) (by decide : (9 : Int32).toInt = 9) (by omega) (by omega)
  refine lv_iload_n hx hb dX10_set_8 rfl (lv_at hl 2 rfl) ?_
  refine lv_iadd hx hb dX10_set_9 ?_
  refine lv_topi (fun v2 ev2 => ?_)
  have tv2 := z_add ev2 (rfl : (v1).toInt = _) (by decide : (6 : Int32).toInt = 6) (by omega) (by omega)
  refine lv_iload_n hx hb dX10_set_10 rfl (lv_at hl 3 rfl) ?_
  refine tX_10_0 hx hb hK hP hD hS (f0 := (fa 10 0)) rfl (i := v2) (x := d) (vp_in_iff.mpr ⟨by omega, by omega⟩) dX10_set_11 (fun f3 ef3 H locs hP hD hS => ?_)
  have hf3 : ∀ j, inb (bA 10 0 j) (f3 j) := by rw [ef3]; exact upd_b (b := bA 10 0) (hI.2 10 0) (row_n (by rw [row_i (a := a.toInt) (c := 6) (by omega) (by omega) (by omega)]; omega))
  have hP9 : va_P (dC, dI) classes (WX h g ca iv lv (u2 fa 10 0 f3) la) H := hP
  have hD9 : va_D A (WX h g ca iv lv (u2 fa 10 0 f3) la) := hD
  exact W.vret hx hb hr (fun t ht9 hW => ⟨⟨(iv, lv, (u2 fa 10 0 f3), la), rfl, ⟨f3, hf3, (show ∀ j : Nat, j ≠ (9 * ((a).toInt).toNat + 6) → f3 j = (fa 10 0) j from fun j hj => by rw [ef3, upd_ne (by show j ≠ (v2 : Int32).toInt.toNat; omega)]), (show f3 (9 * ((a).toInt).toNat + 6) = d from (by rw [ef3, show 9 * (a.toInt).toNat + 6 = (v2 : Int32).toNatClampNeg from (by show _ = (v2 : Int32).toInt.toNat; omega)]; exact upd_eq)), rfl⟩, by rw [ht9]; exact hP9, hD9⟩, hS.F ht9⟩) hS.2.2 dX10_set_12
set_option maxHeartbeats 4000000 in
set_option maxRecDepth 100000 in
/-- X10_set -/
theorem c_X10_set_x7 (l : Launch) (dC : Nat → ClassId) (dI : Nat → Nat → Nat) (sz : Nat) (h : Nat) (g : Nat → Nat → Nat) (ca : Nat → Nat → ClassId) (iv : Nat → Nat → Int32) (lv : Nat → Nat → Int64) (fa : Nat → Nat → Nat → Int32) (la : Nat → Nat → Nat → Int64) (hI : IX iv fa) (a : Int32) (d : Int32) (h_a : 0 ≤ a.toInt ∧ a.toInt ≤ 59) : Met l yX10_set (wc yX10_set cX10_set 4 none) ({ frames := 0, cells := 0, slots := 0, locals := 0 } : Room) (pW (dC, dI) classes (WX h g ca iv lv fa la) (TX ca) sz [.ref (g 11 0), .int a, .int 7, .int d]) (va_Qv (fun (u : SS) => ∃ (na_10_0 : Nat → Int32), (∀ j, inb (bA 10 0 j) (na_10_0 j)) ∧ (∀ j : Nat, j ≠ (9 * (a.toInt).toNat + 7) → na_10_0 j = (fa 10 0) j) ∧ (na_10_0 (9 * (a.toInt).toNat + 7) = d) ∧ u = (iv, lv, (u2 fa 10 0 na_10_0), la)) (bX (dC, dI) h g ca (va_A (WX h g ca iv lv fa la) sz)) (va_A (WX h g ca iv lv fa la) sz)) 0 0 (va_A (WX h g ca iv lv fa la) sz) := by
  refine Met.ofW (cc := cX10_set) (maxL := 4) (ret := none) (by decide) rfl ?_
  intro p e s m args below meth c s₁ B hml hv
  obtain ⟨rfl, hsz, hP, hK, hD0⟩ := hv
  have hx := B.exec
  have hb := B.bytes
  have hr := B.returns
  have ht := tb_tl (atoms_spec (ws := wc yX10_set cX10_set 4 none) B.pre)
  have hown : s.vm.findClass RX10 = some m.cls := findClass_of_methodNamed B.named
  have hlocks := B.notSynchronized
  subst hsz
  have hD := hD0.self (sz := s.heap.size)
  generalize hAe : va_A (WX h g ca iv lv fa la) s.heap.size = A at hD ⊢
  have hA : ∀ q : Nat, s.heap.size ≤ q → A q := fun q h => by rw [← hAe]; exact Or.inr h
  have hS : va_S A s.heap s.heap [] := va_S.rf
  have hl := lv_entry [.ref (g 11 0), .int a, .int 7, .int d] (n := 4) (Nat.le_of_ble_eq_true rfl)
  rw [lg_entry_eq]
  generalize (lg_sl [.ref (g 11 0), .int a, .int 7, .int d] ++ List.replicate (4 - (lg_sl [.ref (g 11 0), .int a, .int 7, .int d]).length) Slot.unset).toArray = ls at hl ⊢
  have hl : lv_has ls 4 [(0, .ref (g 11 0)), (1, .int a), (2, .int 7), (3, .int d)] := hl
  refine lv_aload_n hx hb dX10_set_0 rfl (lv_at hl 0 rfl) ?_
  refine gX_10_0 hx hb ht hown hK hP m_111 dX10_set_1 ?_
  refine lv_iload_n hx hb dX10_set_4 rfl (lv_at hl 1 rfl) ?_
  refine lv_bipush (v := 9) hx hb dX10_set_5 (by decide) ?_
  refine lv_imul hx hb dX10_set_7 ?_
  refine lv_topi (fun v1 ev1 => ?_)
  have tv1 := z_mul ev1 (rfl : (a).toInt = _) (by decide : (9 : Int32).toInt = 9) (by omega) (by omega)
  refine lv_iload_n hx hb dX10_set_8 rfl (lv_at hl 2 rfl) ?_
  refine lv_iadd hx hb dX10_set_9 ?_
  refine lv_topi (fun v2 ev2 => ?_)
  have tv2 := z_add ev2 (rfl : (v1).toInt = _) (by decide : (7 : Int32).toInt = 7) (by omega) (by omega)
  refine lv_iload_n hx hb dX10_set_10 rfl (lv_at hl 3 rfl) ?_
  refine tX_10_0 hx hb hK hP hD hS (f0 := (fa 10 0)) rfl (i := v2) (x := d) (vp_in_iff.mpr ⟨by omega, by omega⟩) dX10_set_11 (fun f3 ef3 H locs hP hD hS => ?_)
  have hf3 : ∀ j, inb (bA 10 0 j) (f3 j) := by rw [ef3]; exact upd_b (b := bA 10 0) (hI.2 10 0) (row_n (by rw [row_i (a := a.toInt) (c := 7) (by omega) (by omega) (by omega)]; omega))
  have hP9 : va_P (dC, dI) classes (WX h g ca iv lv (u2 fa 10 0 f3) la) H := hP
  have hD9 : va_D A (WX h g ca iv lv (u2 fa 10 0 f3) la) := hD
  exact W.vret hx hb hr (fun t ht9 hW => ⟨⟨(iv, lv, (u2 fa 10 0 f3), la), rfl, ⟨f3, hf3, (show ∀ j : Nat, j ≠ (9 * ((a).toInt).toNat + 7) → f3 j = (fa 10 0) j from fun j hj => by rw [ef3, upd_ne (by show j ≠ (v2 : Int32).toInt.toNat; omega)]), (show f3 (9 * ((a).toInt).toNat + 7) = d from (by rw [ef3, show 9 * (a.toInt).toNat + 7 = (v2 : Int32).toNatClampNeg from (by show _ = (v2 : Int32).toInt.toNat; omega)]; exact upd_eq)), rfl⟩, by rw [ht9]; exact hP9, hD9⟩, hS.F ht9⟩) hS.2.2 dX10_set_12
set_option maxHeartbeats 4000000 in
set_option maxRecDepth 100000 in
/-- X10_set -/
theorem c_X10_set_x8 (l : Launch) (dC : Nat → ClassId) (dI : Nat → Nat → Nat) (sz : Nat) (h : Nat) (g : Nat → Nat → Nat) (ca : Nat → Nat → ClassId) (iv : Nat → Nat → Int32) (lv : Nat → Nat → Int64) (fa : Nat → Nat → Nat → Int32) (la : Nat → Nat → Nat → Int64) (hI : IX iv fa) (a : Int32) (d : Int32) (h_a : 0 ≤ a.toInt ∧ a.toInt ≤ 59) : Met l yX10_set (wc yX10_set cX10_set 4 none) ({ frames := 0, cells := 0, slots := 0, locals := 0 } : Room) (pW (dC, dI) classes (WX h g ca iv lv fa la) (TX ca) sz [.ref (g 11 0), .int a, .int 8, .int d]) (va_Qv (fun (u : SS) => ∃ (na_10_0 : Nat → Int32), (∀ j, inb (bA 10 0 j) (na_10_0 j)) ∧ (∀ j : Nat, j ≠ (9 * (a.toInt).toNat + 8) → na_10_0 j = (fa 10 0) j) ∧ (na_10_0 (9 * (a.toInt).toNat + 8) = d) ∧ u = (iv, lv, (u2 fa 10 0 na_10_0), la)) (bX (dC, dI) h g ca (va_A (WX h g ca iv lv fa la) sz)) (va_A (WX h g ca iv lv fa la) sz)) 0 0 (va_A (WX h g ca iv lv fa la) sz) := by
  refine Met.ofW (cc := cX10_set) (maxL := 4) (ret := none) (by decide) rfl ?_
  intro p e s m args below meth c s₁ B hml hv
  obtain ⟨rfl, hsz, hP, hK, hD0⟩ := hv
  have hx := B.exec
  have hb := B.bytes
  have hr := B.returns
  have ht := tb_tl (atoms_spec (ws := wc yX10_set cX10_set 4 none) B.pre)
  have hown : s.vm.findClass RX10 = some m.cls := findClass_of_methodNamed B.named
  have hlocks := B.notSynchronized
  subst hsz
  have hD := hD0.self (sz := s.heap.size)
  generalize hAe : va_A (WX h g ca iv lv fa la) s.heap.size = A at hD ⊢
  have hA : ∀ q : Nat, s.heap.size ≤ q → A q := fun q h => by rw [← hAe]; exact Or.inr h
  have hS : va_S A s.heap s.heap [] := va_S.rf
  have hl := lv_entry [.ref (g 11 0), .int a, .int 8, .int d] (n := 4) (Nat.le_of_ble_eq_true rfl)
  rw [lg_entry_eq]
  generalize (lg_sl [.ref (g 11 0), .int a, .int 8, .int d] ++ List.replicate (4 - (lg_sl [.ref (g 11 0), .int a, .int 8, .int d]).length) Slot.unset).toArray = ls at hl ⊢
  have hl : lv_has ls 4 [(0, .ref (g 11 0)), (1, .int a), (2, .int 8), (3, .int d)] := hl
  refine lv_aload_n hx hb dX10_set_0 rfl (lv_at hl 0 rfl) ?_
  refine gX_10_0 hx hb ht hown hK hP m_111 dX10_set_1 ?_
  refine lv_iload_n hx hb dX10_set_4 rfl (lv_at hl 1 rfl) ?_
  refine lv_bipush (v := 9) hx hb dX10_set_5 (by decide) ?_
  refine lv_imul hx hb dX10_set_7 ?_
  refine lv_topi (fun v1 ev1 => ?_)
  have tv1 := z_mul ev1 (rfl : (a).toInt = _) (by decide : (9 : Int32).toInt = 9) (by omega) (by omega)
  refine lv_iload_n hx hb dX10_set_8 rfl (lv_at hl 2 rfl) ?_
  refine lv_iadd hx hb dX10_set_9 ?_
  refine lv_topi (fun v2 ev2 => ?_)
  have tv2 := z_add ev2 (rfl : (v1).toInt = _) (by decide : (8 : Int32).toInt = 8) (by omega) (by omega)
  refine lv_iload_n hx hb dX10_set_10 rfl (lv_at hl 3 rfl) ?_
  refine tX_10_0 hx hb hK hP hD hS (f0 := (fa 10 0)) rfl (i := v2) (x := d) (vp_in_iff.mpr ⟨by omega, by omega⟩) dX10_set_11 (fun f3 ef3 H locs hP hD hS => ?_)
  have hf3 : ∀ j, inb (bA 10 0 j) (f3 j) := by rw [ef3]; exact upd_b (b := bA 10 0) (hI.2 10 0) (row_n (by rw [row_i (a := a.toInt) (c := 8) (by omega) (by omega) (by omega)]; omega))
  have hP9 : va_P (dC, dI) classes (WX h g ca iv lv (u2 fa 10 0 f3) la) H := hP
  have hD9 : va_D A (WX h g ca iv lv (u2 fa 10 0 f3) la) := hD
  exact W.vret hx hb hr (fun t ht9 hW => ⟨⟨(iv, lv, (u2 fa 10 0 f3), la), rfl, ⟨f3, hf3, (show ∀ j : Nat, j ≠ (9 * ((a).toInt).toNat + 8) → f3 j = (fa 10 0) j from fun j hj => by rw [ef3, upd_ne (by show j ≠ (v2 : Int32).toInt.toNat; omega)]), (show f3 (9 * ((a).toInt).toNat + 8) = d from (by rw [ef3, show 9 * (a.toInt).toNat + 8 = (v2 : Int32).toNatClampNeg from (by show _ = (v2 : Int32).toInt.toNat; omega)]; exact upd_eq)), rfl⟩, by rw [ht9]; exact hP9, hD9⟩, hS.F ht9⟩) hS.2.2 dX10_set_12
set_option maxHeartbeats 4000000 in
set_option maxRecDepth 100000 in
/-- X10_draw -/
theorem c_X10_draw_x (l : Launch) (dC : Nat → ClassId) (dI : Nat → Nat → Nat) (sz : Nat) (h : Nat) (g : Nat → Nat → Nat) (ca : Nat → Nat → ClassId) (iv : Nat → Nat → Int32) (lv : Nat → Nat → Int64) (fa : Nat → Nat → Nat → Int32) (la : Nat → Nat → Nat → Int64) (hI : IX iv fa) (a : Int32) (b : Int32) (d : Int32) (q_10_1 : 0 ≤ (iv 10 1).toInt ∧ (iv 10 1).toInt ≤ 59) (h_b : 0 ≤ b.toInt ∧ b.toInt ≤ 2) : Met l yX10_draw (wc yX10_draw cX10_draw 5 (some .int)) ({ frames := 1, cells := 0, slots := 0, locals := 23 } : Room) (pW (dC, dI) classes (WX h g ca iv lv fa la) (TX ca) sz [.ref (g 11 0), .int a, .int b, .int d]) (va_Qi (fun r (u : SS) => ∃ (na_10_0 : Nat → Int32) (ni_10_1 : Int32), (∀ j, inb (bA 10 0 j) (na_10_0 j)) ∧ inb (bI 10 1) ni_10_1 ∧ ni_10_1.toInt = (iv 10 1).toInt + 1 ∧ (∀ j : Nat, (j < (9 * ((iv 10 1).toInt).toNat + 0) ∨ (9 * ((iv 10 1).toInt).toNat + 9) ≤ j) → na_10_0 j = (fa 10 0) j) ∧ (na_10_0 (9 * ((iv 10 1).toInt).toNat + 0) = a) ∧ (na_10_0 (9 * ((iv 10 1).toInt).toNat + 1) = b) ∧ (na_10_0 (9 * ((iv 10 1).toInt).toNat + 7) = d) ∧ (na_10_0 (9 * ((iv 10 1).toInt).toNat + 8) = (-1)) ∧ (r.toInt = (iv 10 1).toInt) ∧ (0 ≤ r.toInt ∧ r.toInt ≤ 59) ∧ u = ((u2 iv 10 1 ni_10_1), lv, (u2 fa 10 0 na_10_0), la)) (bX (dC, dI) h g ca (va_A (WX h g ca iv lv fa la) sz)) (va_A (WX h g ca iv lv fa la) sz)) 0 0 (va_A (WX h g ca iv lv fa la) sz) := by
  refine Met.ofW (cc := cX10_draw) (maxL := 5) (ret := (some .int)) (by decide) rfl ?_
  intro p e s m args below meth c s₁ B hml hv
  obtain ⟨rfl, hsz, hP, hK, hD0⟩ := hv
  have hx := B.exec
  have hb := B.bytes
  have hr := B.returns
  have ht := tb_tl (atoms_spec (ws := wc yX10_draw cX10_draw 5 (some .int)) B.pre)
  have hown : s.vm.findClass RX10 = some m.cls := findClass_of_methodNamed B.named
  have hlocks := B.notSynchronized
  subst hsz
  have hD := hD0.self (sz := s.heap.size)
  generalize hAe : va_A (WX h g ca iv lv fa la) s.heap.size = A at hD ⊢
  have hA : ∀ q : Nat, s.heap.size ≤ q → A q := fun q h => by rw [← hAe]; exact Or.inr h
  have hS : va_S A s.heap s.heap [] := va_S.rf
  have hl := lv_entry [.ref (g 11 0), .int a, .int b, .int d] (n := 5) (Nat.le_of_ble_eq_true rfl)
  rw [lg_entry_eq]
  generalize (lg_sl [.ref (g 11 0), .int a, .int b, .int d] ++ List.replicate (5 - (lg_sl [.ref (g 11 0), .int a, .int b, .int d]).length) Slot.unset).toArray = ls at hl ⊢
  have hl : lv_has ls 5 [(0, .ref (g 11 0)), (1, .int a), (2, .int b), (3, .int d)] := hl
  refine lv_aload_n hx hb dX10_draw_0 rfl (lv_at hl 0 rfl) ?_
  have i_10_1 : 0 ≤ (iv 10 1).toInt ∧ (iv 10 1).toInt ≤ 60 := hI.1 10 1
  refine gX_10_1 hx hb ht hown hK hP m_112 (v := (iv 10 1)) rfl dX10_draw_1 ?_
  refine lv_istore (lv' := [(4, .int (iv 10 1)), (0, .ref (g 11 0)), (1, .int a), (2, .int b), (3, .int d)]) hx hb dX10_draw_4 hl (by decide) rfl (fun ls hl => ?_)
  refine lv_aload_n hx hb dX10_draw_6 rfl (lv_at hl 1 rfl) ?_
  refine lv_iload hx hb dX10_draw_7 (lv_at hl 0 rfl) ?_
  refine lv_iconst (v := 0) hx hb dX10_draw_9 (by decide) ?_
  refine lv_iload_n hx hb dX10_draw_10 rfl (lv_at hl 2 rfl) ?_
  have hFc := free_all hD hS hA
  refine va_callv (va_runV (As := [.int (iv 10 1), .int 0, .int a]) (rest := []) ⟨hx, hb, hml, hown, ht⟩ (c_X10_set_x0 l dC dI s.heap.size h g ca iv lv fa la hI (iv 10 1) a ⟨by omega, by omega⟩) (kV 3 ht m_493 m_495 m_0 m_78 m_496 rfl rfl hd_X10_set_v ⟨Nat.le_of_ble_eq_true rfl, Nat.le_of_ble_eq_true rfl⟩) (vW hP hK hD (rX_10 hK hP)) rfl rfl hl.1 rfl (lv_room (Nat.le_of_ble_eq_true rfl)) dX10_draw_11 ⟨Nat.le_of_ble_eq_true rfl, Nat.le_of_ble_eq_true rfl⟩) hS (fun q _ h => hFc q h) hFc (fun u t H1 locs ht9 hvm hr1 hB hz1 hk1 hS => ?_)
  obtain ⟨n2, hn2, xr1_0, xr1_1, rfl⟩ := hr1
  obtain ⟨hP, hD⟩ := hB
  rw [ht9] at hP
  generalize H1 = H at hP hS ⊢
  have hP : va_P (dC, dI) classes (WX h g ca iv lv (u2 fa 10 0 n2) la) H := hP
  have hD : va_D A (WX h g ca iv lv (u2 fa 10 0 n2) la) := (show va_D _ (WX h g ca iv lv (u2 fa 10 0 n2) la) from hD).weaken (fun _ _ _ h => hFc _ h)
  have xr1_0 : ∀ j : Nat, j ≠ (9 * (((iv 10 1) : Int32).toInt).toNat + 0) → n2 j = (fa 10 0) j := xr1_0
  have xr1_1 : n2 (9 * (((iv 10 1) : Int32).toInt).toNat + 0) = (a : Int32) := xr1_1
  refine lv_aload_n hx hb dX10_draw_14 rfl (lv_at hl 1 rfl) ?_
  refine lv_iload hx hb dX10_draw_15 (lv_at hl 0 rfl) ?_
  refine lv_iconst (v := 1) hx hb dX10_draw_17 (by decide) ?_
  refine lv_iload_n hx hb dX10_draw_18 rfl (lv_at hl 3 rfl) ?_
  have hFc := free_all hD hS hA
  refine va_callv (va_runV (As := [.int (iv 10 1), .int 1, .int b]) (rest := []) ⟨hx, hb, hml, hown, ht⟩ (c_X10_set_x1 l dC dI H.size h g ca iv lv (u2 fa 10 0 n2) la (IX_a (c := 10) (k := 0) hI hn2) (iv 10 1) b ⟨by omega, by omega⟩ ⟨by omega, by omega⟩) (kV 3 ht m_493 m_495 m_0 m_78 m_496 rfl rfl hd_X10_set_v ⟨Nat.le_of_ble_eq_true rfl, Nat.le_of_ble_eq_true rfl⟩) (vW hP hK hD (rX_10 hK hP)) rfl rfl hl.1 rfl (lv_room (Nat.le_of_ble_eq_true rfl)) dX10_draw_19 ⟨Nat.le_of_ble_eq_true rfl, Nat.le_of_ble_eq_true rfl⟩) hS (fun q _ h => hFc q h) hFc (fun u t H1 locs ht9 hvm hr3 hB hz1 hk1 hS => ?_)
  obtain ⟨n4, hn4, xr3_0, xr3_1, rfl⟩ := hr3
  obtain ⟨hP, hD⟩ := hB
  rw [ht9] at hP
  generalize H1 = H at hP hS ⊢
  have hP : va_P (dC, dI) classes (WX h g ca iv lv (u2 fa 10 0 n4) la) H := hP
  have hD : va_D A (WX h g ca iv lv (u2 fa 10 0 n4) la) := (show va_D _ (WX h g ca iv lv (u2 fa 10 0 n4) la) from hD).weaken (fun _ _ _ h => hFc _ h)
  have xr3_0 : ∀ j : Nat, j ≠ (9 * (((iv 10 1) : Int32).toInt).toNat + 1) → n4 j = n2 j := xr3_0
  have xr3_1 : n4 (9 * (((iv 10 1) : Int32).toInt).toNat + 1) = (b : Int32) := xr3_1
  refine lv_aload_n hx hb dX10_draw_22 rfl (lv_at hl 1 rfl) ?_
  refine lv_iload hx hb dX10_draw_23 (lv_at hl 0 rfl) ?_
  refine lv_bipush (v := 7) hx hb dX10_draw_25 (by decide) ?_
  refine lv_iload_n hx hb dX10_draw_27 rfl (lv_at hl 4 rfl) ?_
  have hFc := free_all hD hS hA
  refine va_callv (va_runV (As := [.int (iv 10 1), .int 7, .int d]) (rest := []) ⟨hx, hb, hml, hown, ht⟩ (c_X10_set_x7 l dC dI H.size h g ca iv lv (u2 fa 10 0 n4) la (IX_a (c := 10) (k := 0) hI hn4) (iv 10 1) d ⟨by omega, by omega⟩) (kV 3 ht m_493 m_495 m_0 m_78 m_496 rfl rfl hd_X10_set_v ⟨Nat.le_of_ble_eq_true rfl, Nat.le_of_ble_eq_true rfl⟩) (vW hP hK hD (rX_10 hK hP)) rfl rfl hl.1 rfl (lv_room (Nat.le_of_ble_eq_true rfl)) dX10_draw_28 ⟨Nat.le_of_ble_eq_true rfl, Nat.le_of_ble_eq_true rfl⟩) hS (fun q _ h => hFc q h) hFc (fun u t H1 locs ht9 hvm hr5 hB hz1 hk1 hS => ?_)
  obtain ⟨n6, hn6, xr5_0, xr5_1, rfl⟩ := hr5
  obtain ⟨hP, hD⟩ := hB
  rw [ht9] at hP
  generalize H1 = H at hP hS ⊢
  have hP : va_P (dC, dI) classes (WX h g ca iv lv (u2 fa 10 0 n6) la) H := hP
  have hD : va_D A (WX h g ca iv lv (u2 fa 10 0 n6) la) := (show va_D _ (WX h g ca iv lv (u2 fa 10 0 n6) la) from hD).weaken (fun _ _ _ h => hFc _ h)
  have xr5_0 : ∀ j : Nat, j ≠ (9 * (((iv 10 1) : Int32).toInt).toNat + 7) → n6 j = n4 j := xr5_0
  have xr5_1 : n6 (9 * (((iv 10 1) : Int32).toInt).toNat + 7) = (d : Int32) := xr5_1
  refine lv_aload_n hx hb dX10_draw_31 rfl (lv_at hl 1 rfl) ?_
  refine lv_iload hx hb dX10_draw_32 (lv_at hl 0 rfl) ?_
  refine lv_bipush (v := 8) hx hb dX10_draw_34 (by decide) ?_
  refine lv_iconst (v := (-1)) hx hb dX10_draw_36 (by decide) ?_
  have hFc := free_all hD hS hA
  refine va_callv (va_runV (As := [.int (iv 10 1), .int 8, .int (-1)]) (rest := []) ⟨hx, hb, hml, hown, ht⟩ (c_X10_set_x8 l dC dI H.size h g ca iv lv (u2 fa 10 0 n6) la (IX_a (c := 10) (k := 0) hI hn6) (iv 10 1) (-1) ⟨by omega, by omega⟩) (kV 3 ht m_493 m_495 m_0 m_78 m_496 rfl rfl hd_X10_set_v ⟨Nat.le_of_ble_eq_true rfl, Nat.le_of_ble_eq_true rfl⟩) (vW hP hK hD (rX_10 hK hP)) rfl rfl hl.1 rfl (lv_room (Nat.le_of_ble_eq_true rfl)) dX10_draw_37 ⟨Nat.le_of_ble_eq_true rfl, Nat.le_of_ble_eq_true rfl⟩) hS (fun q _ h => hFc q h) hFc (fun u t H1 locs ht9 hvm hr7 hB hz1 hk1 hS => ?_)
  obtain ⟨n8, hn8, xr7_0, xr7_1, rfl⟩ := hr7
  obtain ⟨hP, hD⟩ := hB
  rw [ht9] at hP
  generalize H1 = H at hP hS ⊢
  have hP : va_P (dC, dI) classes (WX h g ca iv lv (u2 fa 10 0 n8) la) H := hP
  have hD : va_D A (WX h g ca iv lv (u2 fa 10 0 n8) la) := (show va_D _ (WX h g ca iv lv (u2 fa 10 0 n8) la) from hD).weaken (fun _ _ _ h => hFc _ h)
  have xr7_0 : ∀ j : Nat, j ≠ (9 * (((iv 10 1) : Int32).toInt).toNat + 8) → n8 j = n6 j := xr7_0
  have xr7_1 : n8 (9 * (((iv 10 1) : Int32).toInt).toNat + 8) = ((-1) : Int32) := xr7_1
  refine lv_aload_n hx hb dX10_draw_40 rfl (lv_at hl 1 rfl) ?_
  refine lv_dup hx hb dX10_draw_41 rfl ?_
  refine gX_10_1 hx hb ht hown hK hP m_112 (v := (iv 10 1)) rfl dX10_draw_42 ?_
  refine lv_iconst (v := 1) hx hb dX10_draw_45 (by decide) ?_
  refine lv_iadd hx hb dX10_draw_46 ?_
  refine lv_topi (fun v9 ev9 => ?_)
  have tv9 := z_add ev9 (rfl : ((iv 10 1)).toInt = _) (by decide : (1 : Int32).toInt = 1) (by omega) (by omega)
  refine pX_10_1 (v := v9) hx hb ht hown hK hP hD hS m_112 dX10_draw_47 (fun H locs hP hD hS => ?_)
  refine lv_iload hx hb dX10_draw_50 (lv_at hl 0 rfl) ?_
  have hP9 : va_P (dC, dI) classes (WX h g ca (u2 iv 10 1 v9) lv (u2 fa 10 0 n8) la) H := hP
  have hD9 : va_D A (WX h g ca (u2 iv 10 1 v9) lv (u2 fa 10 0 n8) la) := hD
  exact W.iret (v := (iv 10 1)) hx hb hr (fun t ht9 hW => ⟨⟨(iv 10 1), ((u2 iv 10 1 v9), lv, (u2 fa 10 0 n8), la), rfl, ⟨n8, v9, hn8, (show inb (0, 60) v9 from ⟨by omega, by omega⟩), (by omega), (show ∀ j : Nat, (j < (9 * ((iv 10 1).toInt).toNat + 0) ∨ (9 * ((iv 10 1).toInt).toNat + 9) ≤ j) → n8 j = (fa 10 0) j from fun j hj => by rw [xr7_0 j (by omega), xr5_0 j (by omega), xr3_0 j (by omega), xr1_0 j (by omega)]), (show n8 (9 * ((iv 10 1).toInt).toNat + 0) = a from (by rw [xr7_0 (9 * ((iv 10 1).toInt).toNat + 0) (by omega), xr5_0 (9 * ((iv 10 1).toInt).toNat + 0) (by omega), xr3_0 (9 * ((iv 10 1).toInt).toNat + 0) (by omega)]; exact xr1_1)), (show n8 (9 * ((iv 10 1).toInt).toNat + 1) = b from (by rw [xr7_0 (9 * ((iv 10 1).toInt).toNat + 1) (by omega), xr5_0 (9 * ((iv 10 1).toInt).toNat + 1) (by omega)]; exact xr3_1)), (show n8 (9 * ((iv 10 1).toInt).toNat + 7) = d from (by rw [xr7_0 (9 * ((iv 10 1).toInt).toNat + 7) (by omega)]; exact xr5_1)), (show n8 (9 * ((iv 10 1).toInt).toNat + 8) = (-1) from (by exact xr7_1)), (show ((iv 10 1) : Int32).toInt = (iv 10 1).toInt from by omega), ⟨by omega, by omega⟩, rfl⟩, by rw [ht9]; exact hP9, hD9⟩, hS.F ht9⟩) hS.2.2 dX10_draw_52
set_option maxHeartbeats 4000000 in
set_option maxRecDepth 100000 in
/-- X10_weigh -/
theorem c_X10_weigh_x (l : Launch) (dC : Nat → ClassId) (dI : Nat → Nat → Nat) (sz : Nat) (h : Nat) (g : Nat → Nat → Nat) (ca : Nat → Nat → ClassId) (iv : Nat → Nat → Int32) (lv : Nat → Nat → Int64) (fa : Nat → Nat → Nat → Int32) (la : Nat → Nat → Nat → Int64) (hI : IX iv fa) (a : Int32) (b : Int32) (d : Int32) (k : Int32) (h_a : 0 ≤ a.toInt ∧ a.toInt ≤ 59) : Met l yX10_weigh (wc yX10_weigh cX10_weigh 5 none) ({ frames := 1, cells := 0, slots := 0, locals := 23 } : Room) (pW (dC, dI) classes (WX h g ca iv lv fa la) (TX ca) sz [.ref (g 11 0), .int a, .int b, .int d, .int k]) (va_Qv (fun (u : SS) => ∃ (na_10_0 : Nat → Int32), (∀ j, inb (bA 10 0 j) (na_10_0 j)) ∧ (∀ j : Nat, (j ≠ (9 * (a.toInt).toNat + 2) ∧ j ≠ (9 * (a.toInt).toNat + 3) ∧ j ≠ (9 * (a.toInt).toNat + 4)) → na_10_0 j = (fa 10 0) j) ∧ (na_10_0 (9 * (a.toInt).toNat + 2) = b) ∧ (na_10_0 (9 * (a.toInt).toNat + 3) = d) ∧ (na_10_0 (9 * (a.toInt).toNat + 4) = k) ∧ u = (iv, lv, (u2 fa 10 0 na_10_0), la)) (bX (dC, dI) h g ca (va_A (WX h g ca iv lv fa la) sz)) (va_A (WX h g ca iv lv fa la) sz)) 0 0 (va_A (WX h g ca iv lv fa la) sz) := by
  refine Met.ofW (cc := cX10_weigh) (maxL := 5) (ret := none) (by decide) rfl ?_
  intro p e s m args below meth c s₁ B hml hv
  obtain ⟨rfl, hsz, hP, hK, hD0⟩ := hv
  have hx := B.exec
  have hb := B.bytes
  have hr := B.returns
  have ht := tb_tl (atoms_spec (ws := wc yX10_weigh cX10_weigh 5 none) B.pre)
  have hown : s.vm.findClass RX10 = some m.cls := findClass_of_methodNamed B.named
  have hlocks := B.notSynchronized
  subst hsz
  have hD := hD0.self (sz := s.heap.size)
  generalize hAe : va_A (WX h g ca iv lv fa la) s.heap.size = A at hD ⊢
  have hA : ∀ q : Nat, s.heap.size ≤ q → A q := fun q h => by rw [← hAe]; exact Or.inr h
  have hS : va_S A s.heap s.heap [] := va_S.rf
  have hl := lv_entry [.ref (g 11 0), .int a, .int b, .int d, .int k] (n := 5) (Nat.le_of_ble_eq_true rfl)
  rw [lg_entry_eq]
  generalize (lg_sl [.ref (g 11 0), .int a, .int b, .int d, .int k] ++ List.replicate (5 - (lg_sl [.ref (g 11 0), .int a, .int b, .int d, .int k]).length) Slot.unset).toArray = ls at hl ⊢
  have hl : lv_has ls 5 [(0, .ref (g 11 0)), (1, .int a), (2, .int b), (3, .int d), (4, .int k)] := hl
  refine lv_aload_n hx hb dX10_weigh_0 rfl (lv_at hl 0 rfl) ?_
  refine lv_iload_n hx hb dX10_weigh_1 rfl (lv_at hl 1 rfl) ?_
  refine lv_iconst (v := 2) hx hb dX10_weigh_2 (by decide) ?_
  refine lv_iload_n hx hb dX10_weigh_3 rfl (lv_at hl 2 rfl) ?_
  have hFc := free_all hD hS hA
  refine va_callv (va_runV (As := [.int a, .int 2, .int b]) (rest := []) ⟨hx, hb, hml, hown, ht⟩ (c_X10_set_x2 l dC dI s.heap.size h g ca iv lv fa la hI a b ⟨by omega, by omega⟩) (kV 3 ht m_493 m_495 m_0 m_78 m_496 rfl rfl hd_X10_set_v ⟨Nat.le_of_ble_eq_true rfl, Nat.le_of_ble_eq_true rfl⟩) (vW hP hK hD (rX_10 hK hP)) rfl rfl hl.1 rfl (lv_room (Nat.le_of_ble_eq_true rfl)) dX10_weigh_4 ⟨Nat.le_of_ble_eq_true rfl, Nat.le_of_ble_eq_true rfl⟩) hS (fun q _ h => hFc q h) hFc (fun u t H1 locs ht9 hvm hr1 hB hz1 hk1 hS => ?_)
  obtain ⟨n2, hn2, xr1_0, xr1_1, rfl⟩ := hr1
  obtain ⟨hP, hD⟩ := hB
  rw [ht9] at hP
  generalize H1 = H at hP hS ⊢
  have hP : va_P (dC, dI) classes (WX h g ca iv lv (u2 fa 10 0 n2) la) H := hP
  have hD : va_D A (WX h g ca iv lv (u2 fa 10 0 n2) la) := (show va_D _ (WX h g ca iv lv (u2 fa 10 0 n2) la) from hD).weaken (fun _ _ _ h => hFc _ h)
  have xr1_0 : ∀ j : Nat, j ≠ (9 * ((a : Int32).toInt).toNat + 2) → n2 j = (fa 10 0) j := xr1_0
  have xr1_1 : n2 (9 * ((a : Int32).toInt).toNat + 2) = (b : Int32) := xr1_1
  refine lv_aload_n hx hb dX10_weigh_7 rfl (lv_at hl 0 rfl) ?_
  refine lv_iload_n hx hb dX10_weigh_8 rfl (lv_at hl 1 rfl) ?_
  refine lv_iconst (v := 3) hx hb dX10_weigh_9 (by decide) ?_
  refine lv_iload_n hx hb dX10_weigh_10 rfl (lv_at hl 3 rfl) ?_
  have hFc := free_all hD hS hA
  refine va_callv (va_runV (As := [.int a, .int 3, .int d]) (rest := []) ⟨hx, hb, hml, hown, ht⟩ (c_X10_set_x3 l dC dI H.size h g ca iv lv (u2 fa 10 0 n2) la (IX_a (c := 10) (k := 0) hI hn2) a d ⟨by omega, by omega⟩) (kV 3 ht m_493 m_495 m_0 m_78 m_496 rfl rfl hd_X10_set_v ⟨Nat.le_of_ble_eq_true rfl, Nat.le_of_ble_eq_true rfl⟩) (vW hP hK hD (rX_10 hK hP)) rfl rfl hl.1 rfl (lv_room (Nat.le_of_ble_eq_true rfl)) dX10_weigh_11 ⟨Nat.le_of_ble_eq_true rfl, Nat.le_of_ble_eq_true rfl⟩) hS (fun q _ h => hFc q h) hFc (fun u t H1 locs ht9 hvm hr3 hB hz1 hk1 hS => ?_)
  obtain ⟨n4, hn4, xr3_0, xr3_1, rfl⟩ := hr3
  obtain ⟨hP, hD⟩ := hB
  rw [ht9] at hP
  generalize H1 = H at hP hS ⊢
  have hP : va_P (dC, dI) classes (WX h g ca iv lv (u2 fa 10 0 n4) la) H := hP
  have hD : va_D A (WX h g ca iv lv (u2 fa 10 0 n4) la) := (show va_D _ (WX h g ca iv lv (u2 fa 10 0 n4) la) from hD).weaken (fun _ _ _ h => hFc _ h)
  have xr3_0 : ∀ j : Nat, j ≠ (9 * ((a : Int32).toInt).toNat + 3) → n4 j = n2 j := xr3_0
  have xr3_1 : n4 (9 * ((a : Int32).toInt).toNat + 3) = (d : Int32) := xr3_1
  refine lv_aload_n hx hb dX10_weigh_14 rfl (lv_at hl 0 rfl) ?_
  refine lv_iload_n hx hb dX10_weigh_15 rfl (lv_at hl 1 rfl) ?_
  refine lv_iconst (v := 4) hx hb dX10_weigh_16 (by decide) ?_
  refine lv_iload hx hb dX10_weigh_17 (lv_at hl 4 rfl) ?_
  have hFc := free_all hD hS hA
  refine va_callv (va_runV (As := [.int a, .int 4, .int k]) (rest := []) ⟨hx, hb, hml, hown, ht⟩ (c_X10_set_x4 l dC dI H.size h g ca iv lv (u2 fa 10 0 n4) la (IX_a (c := 10) (k := 0) hI hn4) a k ⟨by omega, by omega⟩) (kV 3 ht m_493 m_495 m_0 m_78 m_496 rfl rfl hd_X10_set_v ⟨Nat.le_of_ble_eq_true rfl, Nat.le_of_ble_eq_true rfl⟩) (vW hP hK hD (rX_10 hK hP)) rfl rfl hl.1 rfl (lv_room (Nat.le_of_ble_eq_true rfl)) dX10_weigh_19 ⟨Nat.le_of_ble_eq_true rfl, Nat.le_of_ble_eq_true rfl⟩) hS (fun q _ h => hFc q h) hFc (fun u t H1 locs ht9 hvm hr5 hB hz1 hk1 hS => ?_)
  obtain ⟨n6, hn6, xr5_0, xr5_1, rfl⟩ := hr5
  obtain ⟨hP, hD⟩ := hB
  rw [ht9] at hP
  generalize H1 = H at hP hS ⊢
  have hP : va_P (dC, dI) classes (WX h g ca iv lv (u2 fa 10 0 n6) la) H := hP
  have hD : va_D A (WX h g ca iv lv (u2 fa 10 0 n6) la) := (show va_D _ (WX h g ca iv lv (u2 fa 10 0 n6) la) from hD).weaken (fun _ _ _ h => hFc _ h)
  have xr5_0 : ∀ j : Nat, j ≠ (9 * ((a : Int32).toInt).toNat + 4) → n6 j = n4 j := xr5_0
  have xr5_1 : n6 (9 * ((a : Int32).toInt).toNat + 4) = (k : Int32) := xr5_1
  have hP9 : va_P (dC, dI) classes (WX h g ca iv lv (u2 fa 10 0 n6) la) H := hP
  have hD9 : va_D A (WX h g ca iv lv (u2 fa 10 0 n6) la) := hD
  exact W.vret hx hb hr (fun t ht9 hW => ⟨⟨(iv, lv, (u2 fa 10 0 n6), la), rfl, ⟨n6, hn6, (show ∀ j : Nat, (j ≠ (9 * ((a).toInt).toNat + 2) ∧ j ≠ (9 * ((a).toInt).toNat + 3) ∧ j ≠ (9 * ((a).toInt).toNat + 4)) → n6 j = (fa 10 0) j from fun j hj => by rw [xr5_0 j (by omega), xr3_0 j (by omega), xr1_0 j (by omega)]), (show n6 (9 * ((a).toInt).toNat + 2) = b from (by rw [xr5_0 (9 * (a.toInt).toNat + 2) (by omega), xr3_0 (9 * (a.toInt).toNat + 2) (by omega)]; exact xr1_1)), (show n6 (9 * ((a).toInt).toNat + 3) = d from (by rw [xr5_0 (9 * (a.toInt).toNat + 3) (by omega)]; exact xr3_1)), (show n6 (9 * ((a).toInt).toNat + 4) = k from (by exact xr5_1)), rfl⟩, by rw [ht9]; exact hP9, hD9⟩, hS.F ht9⟩) hS.2.2 dX10_weigh_22
set_option maxHeartbeats 4000000 in
set_option maxRecDepth 100000 in
/-- X10_dryIn -/
theorem c_X10_dryIn_x (l : Launch) (dC : Nat → ClassId) (dI : Nat → Nat → Nat) (sz : Nat) (h : Nat) (g : Nat → Nat → Nat) (ca : Nat → Nat → ClassId) (iv : Nat → Nat → Int32) (lv : Nat → Nat → Int64) (fa : Nat → Nat → Nat → Int32) (la : Nat → Nat → Nat → Int64) (hI : IX iv fa) (a : Int32) (b : Int32) (d : Int32) (h_a : 0 ≤ a.toInt ∧ a.toInt ≤ 59) : Met l yX10_dryIn (wc yX10_dryIn cX10_dryIn 4 none) ({ frames := 1, cells := 0, slots := 0, locals := 23 } : Room) (pW (dC, dI) classes (WX h g ca iv lv fa la) (TX ca) sz [.ref (g 11 0), .int a, .int b, .int d]) (va_Qv (fun (u : SS) => ∃ (na_10_0 : Nat → Int32), (∀ j, inb (bA 10 0 j) (na_10_0 j)) ∧ (∀ j : Nat, (j ≠ (9 * (a.toInt).toNat + 5) ∧ j ≠ (9 * (a.toInt).toNat + 6)) → na_10_0 j = (fa 10 0) j) ∧ (na_10_0 (9 * (a.toInt).toNat + 5) = b) ∧ (na_10_0 (9 * (a.toInt).toNat + 6) = d) ∧ u = (iv, lv, (u2 fa 10 0 na_10_0), la)) (bX (dC, dI) h g ca (va_A (WX h g ca iv lv fa la) sz)) (va_A (WX h g ca iv lv fa la) sz)) 0 0 (va_A (WX h g ca iv lv fa la) sz) := by
  refine Met.ofW (cc := cX10_dryIn) (maxL := 4) (ret := none) (by decide) rfl ?_
  intro p e s m args below meth c s₁ B hml hv
  obtain ⟨rfl, hsz, hP, hK, hD0⟩ := hv
  have hx := B.exec
  have hb := B.bytes
  have hr := B.returns
  have ht := tb_tl (atoms_spec (ws := wc yX10_dryIn cX10_dryIn 4 none) B.pre)
  have hown : s.vm.findClass RX10 = some m.cls := findClass_of_methodNamed B.named
  have hlocks := B.notSynchronized
  subst hsz
  have hD := hD0.self (sz := s.heap.size)
  generalize hAe : va_A (WX h g ca iv lv fa la) s.heap.size = A at hD ⊢
  have hA : ∀ q : Nat, s.heap.size ≤ q → A q := fun q h => by rw [← hAe]; exact Or.inr h
  have hS : va_S A s.heap s.heap [] := va_S.rf
  have hl := lv_entry [.ref (g 11 0), .int a, .int b, .int d] (n := 4) (Nat.le_of_ble_eq_true rfl)
  rw [lg_entry_eq]
  generalize (lg_sl [.ref (g 11 0), .int a, .int b, .int d] ++ List.replicate (4 - (lg_sl [.ref (g 11 0), .int a, .int b, .int d]).length) Slot.unset).toArray = ls at hl ⊢
  have hl : lv_has ls 4 [(0, .ref (g 11 0)), (1, .int a), (2, .int b), (3, .int d)] := hl
  refine lv_aload_n hx hb dX10_dryIn_0 rfl (lv_at hl 0 rfl) ?_
  refine lv_iload_n hx hb dX10_dryIn_1 rfl (lv_at hl 1 rfl) ?_
  refine lv_iconst (v := 5) hx hb dX10_dryIn_2 (by decide) ?_
  refine lv_iload_n hx hb dX10_dryIn_3 rfl (lv_at hl 2 rfl) ?_
  have hFc := free_all hD hS hA
  refine va_callv (va_runV (As := [.int a, .int 5, .int b]) (rest := []) ⟨hx, hb, hml, hown, ht⟩ (c_X10_set_x5 l dC dI s.heap.size h g ca iv lv fa la hI a b ⟨by omega, by omega⟩) (kV 3 ht m_493 m_495 m_0 m_78 m_496 rfl rfl hd_X10_set_v ⟨Nat.le_of_ble_eq_true rfl, Nat.le_of_ble_eq_true rfl⟩) (vW hP hK hD (rX_10 hK hP)) rfl rfl hl.1 rfl (lv_room (Nat.le_of_ble_eq_true rfl)) dX10_dryIn_4 ⟨Nat.le_of_ble_eq_true rfl, Nat.le_of_ble_eq_true rfl⟩) hS (fun q _ h => hFc q h) hFc (fun u t H1 locs ht9 hvm hr1 hB hz1 hk1 hS => ?_)
  obtain ⟨n2, hn2, xr1_0, xr1_1, rfl⟩ := hr1
  obtain ⟨hP, hD⟩ := hB
  rw [ht9] at hP
  generalize H1 = H at hP hS ⊢
  have hP : va_P (dC, dI) classes (WX h g ca iv lv (u2 fa 10 0 n2) la) H := hP
  have hD : va_D A (WX h g ca iv lv (u2 fa 10 0 n2) la) := (show va_D _ (WX h g ca iv lv (u2 fa 10 0 n2) la) from hD).weaken (fun _ _ _ h => hFc _ h)
  have xr1_0 : ∀ j : Nat, j ≠ (9 * ((a : Int32).toInt).toNat + 5) → n2 j = (fa 10 0) j := xr1_0
  have xr1_1 : n2 (9 * ((a : Int32).toInt).toNat + 5) = (b : Int32) := xr1_1
  refine lv_aload_n hx hb dX10_dryIn_7 rfl (lv_at hl 0 rfl) ?_
  refine lv_iload_n hx hb dX10_dryIn_8 rfl (lv_at hl 1 rfl) ?_
  refine lv_bipush (v := 6) hx hb dX10_dryIn_9 (by decide) ?_
  refine lv_iload_n hx hb dX10_dryIn_11 rfl (lv_at hl 3 rfl) ?_
  have hFc := free_all hD hS hA
  refine va_callv (va_runV (As := [.int a, .int 6, .int d]) (rest := []) ⟨hx, hb, hml, hown, ht⟩ (c_X10_set_x6 l dC dI H.size h g ca iv lv (u2 fa 10 0 n2) la (IX_a (c := 10) (k := 0) hI hn2) a d ⟨by omega, by omega⟩) (kV 3 ht m_493 m_495 m_0 m_78 m_496 rfl rfl hd_X10_set_v ⟨Nat.le_of_ble_eq_true rfl, Nat.le_of_ble_eq_true rfl⟩) (vW hP hK hD (rX_10 hK hP)) rfl rfl hl.1 rfl (lv_room (Nat.le_of_ble_eq_true rfl)) dX10_dryIn_12 ⟨Nat.le_of_ble_eq_true rfl, Nat.le_of_ble_eq_true rfl⟩) hS (fun q _ h => hFc q h) hFc (fun u t H1 locs ht9 hvm hr3 hB hz1 hk1 hS => ?_)
  obtain ⟨n4, hn4, xr3_0, xr3_1, rfl⟩ := hr3
  obtain ⟨hP, hD⟩ := hB
  rw [ht9] at hP
  generalize H1 = H at hP hS ⊢
  have hP : va_P (dC, dI) classes (WX h g ca iv lv (u2 fa 10 0 n4) la) H := hP
  have hD : va_D A (WX h g ca iv lv (u2 fa 10 0 n4) la) := (show va_D _ (WX h g ca iv lv (u2 fa 10 0 n4) la) from hD).weaken (fun _ _ _ h => hFc _ h)
  have xr3_0 : ∀ j : Nat, j ≠ (9 * ((a : Int32).toInt).toNat + 6) → n4 j = n2 j := xr3_0
  have xr3_1 : n4 (9 * ((a : Int32).toInt).toNat + 6) = (d : Int32) := xr3_1
  have hP9 : va_P (dC, dI) classes (WX h g ca iv lv (u2 fa 10 0 n4) la) H := hP
  have hD9 : va_D A (WX h g ca iv lv (u2 fa 10 0 n4) la) := hD
  exact W.vret hx hb hr (fun t ht9 hW => ⟨⟨(iv, lv, (u2 fa 10 0 n4), la), rfl, ⟨n4, hn4, (show ∀ j : Nat, (j ≠ (9 * ((a).toInt).toNat + 5) ∧ j ≠ (9 * ((a).toInt).toNat + 6)) → n4 j = (fa 10 0) j from fun j hj => by rw [xr3_0 j (by omega), xr1_0 j (by omega)]), (show n4 (9 * ((a).toInt).toNat + 5) = b from (by rw [xr3_0 (9 * (a.toInt).toNat + 5) (by omega)]; exact xr1_1)), (show n4 (9 * ((a).toInt).toNat + 6) = d from (by exact xr3_1)), rfl⟩, by rw [ht9]; exact hP9, hD9⟩, hS.F ht9⟩) hS.2.2 dX10_dryIn_15
set_option maxHeartbeats 4000000 in
set_option maxRecDepth 100000 in
/-- X10_dropOut -/
theorem c_X10_dropOut_x (l : Launch) (dC : Nat → ClassId) (dI : Nat → Nat → Nat) (sz : Nat) (h : Nat) (g : Nat → Nat → Nat) (ca : Nat → Nat → ClassId) (iv : Nat → Nat → Int32) (lv : Nat → Nat → Int64) (fa : Nat → Nat → Nat → Int32) (la : Nat → Nat → Nat → Int64) (hI : IX iv fa) (a : Int32) (b : Int32) (h_a : 0 ≤ a.toInt ∧ a.toInt ≤ 59) : Met l yX10_dropOut (wc yX10_dropOut cX10_dropOut 3 none) ({ frames := 1, cells := 0, slots := 0, locals := 23 } : Room) (pW (dC, dI) classes (WX h g ca iv lv fa la) (TX ca) sz [.ref (g 11 0), .int a, .int b]) (va_Qv (fun (u : SS) => ∃ (na_10_0 : Nat → Int32) (ni_10_2 : Int32), (∀ j, inb (bA 10 0 j) (na_10_0 j)) ∧ (∀ j : Nat, (j ≠ (9 * (a.toInt).toNat + 8)) → na_10_0 j = (fa 10 0) j) ∧ (na_10_0 (9 * (a.toInt).toNat + 8) = b) ∧ u = ((u2 iv 10 2 ni_10_2), lv, (u2 fa 10 0 na_10_0), la)) (bX (dC, dI) h g ca (va_A (WX h g ca iv lv fa la) sz)) (va_A (WX h g ca iv lv fa la) sz)) 0 0 (va_A (WX h g ca iv lv fa la) sz) := by
  refine Met.ofW (cc := cX10_dropOut) (maxL := 3) (ret := none) (by decide) rfl ?_
  intro p e s m args below meth c s₁ B hml hv
  obtain ⟨rfl, hsz, hP, hK, hD0⟩ := hv
  have hx := B.exec
  have hb := B.bytes
  have hr := B.returns
  have ht := tb_tl (atoms_spec (ws := wc yX10_dropOut cX10_dropOut 3 none) B.pre)
  have hown : s.vm.findClass RX10 = some m.cls := findClass_of_methodNamed B.named
  have hlocks := B.notSynchronized
  subst hsz
  have hD := hD0.self (sz := s.heap.size)
  generalize hAe : va_A (WX h g ca iv lv fa la) s.heap.size = A at hD ⊢
  have hA : ∀ q : Nat, s.heap.size ≤ q → A q := fun q h => by rw [← hAe]; exact Or.inr h
  have hS : va_S A s.heap s.heap [] := va_S.rf
  have hl := lv_entry [.ref (g 11 0), .int a, .int b] (n := 3) (Nat.le_of_ble_eq_true rfl)
  rw [lg_entry_eq]
  generalize (lg_sl [.ref (g 11 0), .int a, .int b] ++ List.replicate (3 - (lg_sl [.ref (g 11 0), .int a, .int b]).length) Slot.unset).toArray = ls at hl ⊢
  have hl : lv_has ls 3 [(0, .ref (g 11 0)), (1, .int a), (2, .int b)] := hl
  refine lv_aload_n hx hb dX10_dropOut_0 rfl (lv_at hl 0 rfl) ?_
  refine lv_iload_n hx hb dX10_dropOut_1 rfl (lv_at hl 1 rfl) ?_
  refine lv_bipush (v := 8) hx hb dX10_dropOut_2 (by decide) ?_
  refine lv_iload_n hx hb dX10_dropOut_4 rfl (lv_at hl 2 rfl) ?_
  have hFc := free_all hD hS hA
  refine va_callv (va_runV (As := [.int a, .int 8, .int b]) (rest := []) ⟨hx, hb, hml, hown, ht⟩ (c_X10_set_x8 l dC dI s.heap.size h g ca iv lv fa la hI a b ⟨by omega, by omega⟩) (kV 3 ht m_493 m_495 m_0 m_78 m_496 rfl rfl hd_X10_set_v ⟨Nat.le_of_ble_eq_true rfl, Nat.le_of_ble_eq_true rfl⟩) (vW hP hK hD (rX_10 hK hP)) rfl rfl hl.1 rfl (lv_room (Nat.le_of_ble_eq_true rfl)) dX10_dropOut_5 ⟨Nat.le_of_ble_eq_true rfl, Nat.le_of_ble_eq_true rfl⟩) hS (fun q _ h => hFc q h) hFc (fun u t H1 locs ht9 hvm hr1 hB hz1 hk1 hS => ?_)
  obtain ⟨n2, hn2, xr1_0, xr1_1, rfl⟩ := hr1
  obtain ⟨hP, hD⟩ := hB
  rw [ht9] at hP
  generalize H1 = H at hP hS ⊢
  have hP : va_P (dC, dI) classes (WX h g ca iv lv (u2 fa 10 0 n2) la) H := hP
  have hD : va_D A (WX h g ca iv lv (u2 fa 10 0 n2) la) := (show va_D _ (WX h g ca iv lv (u2 fa 10 0 n2) la) from hD).weaken (fun _ _ _ h => hFc _ h)
  have xr1_0 : ∀ j : Nat, j ≠ (9 * ((a : Int32).toInt).toNat + 8) → n2 j = (fa 10 0) j := xr1_0
  have xr1_1 : n2 (9 * ((a : Int32).toInt).toNat + 8) = (b : Int32) := xr1_1
  refine lv_aload_n hx hb dX10_dropOut_8 rfl (lv_at hl 0 rfl) ?_
  refine lv_dup hx hb dX10_dropOut_9 rfl ?_
  refine gX_10_2 hx hb ht hown hK hP m_116 (v := (iv 10 2)) rfl dX10_dropOut_10 ?_
  refine lv_iconst (v := 1) hx hb dX10_dropOut_13 (by decide) ?_
  refine lv_iadd hx hb dX10_dropOut_14 ?_
  refine lv_topi (fun v3 ev3 => ?_)
  refine pX_10_2 (v := v3) hx hb ht hown hK hP hD hS m_116 dX10_dropOut_15 (fun H locs hP hD hS => ?_)
  have hP9 : va_P (dC, dI) classes (WX h g ca (u2 iv 10 2 v3) lv (u2 fa 10 0 n2) la) H := hP
  have hD9 : va_D A (WX h g ca (u2 iv 10 2 v3) lv (u2 fa 10 0 n2) la) := hD
  exact W.vret hx hb hr (fun t ht9 hW => ⟨⟨((u2 iv 10 2 v3), lv, (u2 fa 10 0 n2), la), rfl, ⟨n2, v3, hn2, (show ∀ j : Nat, (j ≠ (9 * ((a).toInt).toNat + 8)) → n2 j = (fa 10 0) j from fun j hj => by rw [xr1_0 j (by omega)]), (show n2 (9 * ((a).toInt).toNat + 8) = b from (by exact xr1_1)), rfl⟩, by rw [ht9]; exact hP9, hD9⟩, hS.F ht9⟩) hS.2.2 dX10_dropOut_18
