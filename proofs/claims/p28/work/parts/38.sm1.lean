/-! ===== sm1 ===== -/
set_option maxHeartbeats 4000000 in
set_option maxRecDepth 100000 in
/-- X10_get -/
theorem c_X10_get_x3 (l : Launch) (dC : Nat → ClassId) (dI : Nat → Nat → Nat) (h : Nat) (g : Nat → Nat → Nat) (ca : Nat → Nat → ClassId) (iv : Nat → Nat → Int32) (lv : Nat → Nat → Int64) (fa : Nat → Nat → Nat → Int32) (la : Nat → Nat → Nat → Int64) (hI : IX iv fa) (a : Int32) (h_a : 0 ≤ a.toInt ∧ a.toInt ≤ 59) : Met l yX10_get (wc yX10_get cX10_get 3 (some .int)) ({ frames := 0, cells := 0, slots := 0, locals := 0 } : Room) (pR (dC, dI) classes (WX h g ca iv lv fa la) (TX ca) [.ref (g 11 0), .int a, .int 3]) (vp_Si (fun r => (True) ∧ (r.toInt = ((fa 10 0) (9 * (a.toInt).toNat + 3)).toInt))) 0 0 (fun _ => False) := by
  refine Met.ofW (cc := cX10_get) (maxL := 3) (ret := (some .int)) (by decide) rfl ?_
  intro p e s m args below meth c s₁ B hml hv
  obtain ⟨rfl, hP, hK⟩ := hv
  have hx := B.exec
  have hb := B.bytes
  have hr := B.returns
  have ht := tb_tl (atoms_spec (ws := wc yX10_get cX10_get 3 (some .int)) B.pre)
  have hown : s.vm.findClass RX10 = some m.cls := findClass_of_methodNamed B.named
  have hlocks := B.notSynchronized
  have hl := lv_entry [.ref (g 11 0), .int a, .int 3] (n := 3) (Nat.le_of_ble_eq_true rfl)
  rw [lg_entry_eq]
  generalize (lg_sl [.ref (g 11 0), .int a, .int 3] ++ List.replicate (3 - (lg_sl [.ref (g 11 0), .int a, .int 3]).length) Slot.unset).toArray = ls at hl ⊢
  have hl : lv_has ls 3 [(0, .ref (g 11 0)), (1, .int a), (2, .int 3)] := hl
  refine lv_aload_n hx hb dX10_get_0 rfl (lv_at hl 0 rfl) ?_
  refine gX_10_0 hx hb ht hown hK hP m_111 dX10_get_1 ?_
  refine lv_iload_n hx hb dX10_get_4 rfl (lv_at hl 1 rfl) ?_
  refine lv_bipush (v := 9) hx hb dX10_get_5 (by decide) ?_
  refine lv_imul hx hb dX10_get_7 ?_
  refine lv_topi (fun v1 ev1 => ?_)
  have tv1 := z_mul ev1 (rfl : (a).toInt = _) (by decide : (9 : Int32).toInt = 9) (by omega) (by omega)
  refine lv_iload_n hx hb dX10_get_8 rfl (lv_at hl 2 rfl) ?_
  refine lv_iadd hx hb dX10_get_9 ?_
  refine lv_topi (fun v2 ev2 => ?_)
  have tv2 := z_add ev2 (rfl : (v1).toInt = _) (by decide : (3 : Int32).toInt = 3) (by omega) (by omega)
  refine lX_10_0 hx hb hK hP (f := (fa 10 0)) rfl (vp_in_iff.mpr ⟨by omega, by omega⟩) dX10_get_10 ?_
  refine lv_topi (fun v3 ev3 => ?_)
  exact W.iret (v := v3) hx hb hr (fun t ht9 hW => ⟨v3, rfl, ⟨trivial, (show (v3 : Int32).toInt = ((fa 10 0) (9 * ((a).toInt).toNat + 3)).toInt from (by have h1 := congrArg Int32.toInt ev3; have h2 : (v2 : Int32).toNatClampNeg = 9 * (a.toInt).toNat + 3 := (by show (v2 : Int32).toInt.toNat = _; omega); rw [h2] at h1; exact h1))⟩, ht9⟩) (fun q hq => by cases hq) dX10_get_11
set_option maxHeartbeats 4000000 in
set_option maxRecDepth 100000 in
/-- X10_get -/
theorem c_X10_get_x4 (l : Launch) (dC : Nat → ClassId) (dI : Nat → Nat → Nat) (h : Nat) (g : Nat → Nat → Nat) (ca : Nat → Nat → ClassId) (iv : Nat → Nat → Int32) (lv : Nat → Nat → Int64) (fa : Nat → Nat → Nat → Int32) (la : Nat → Nat → Nat → Int64) (hI : IX iv fa) (a : Int32) (h_a : 0 ≤ a.toInt ∧ a.toInt ≤ 59) : Met l yX10_get (wc yX10_get cX10_get 3 (some .int)) ({ frames := 0, cells := 0, slots := 0, locals := 0 } : Room) (pR (dC, dI) classes (WX h g ca iv lv fa la) (TX ca) [.ref (g 11 0), .int a, .int 4]) (vp_Si (fun r => (True) ∧ (r.toInt = ((fa 10 0) (9 * (a.toInt).toNat + 4)).toInt))) 0 0 (fun _ => False) := by
  refine Met.ofW (cc := cX10_get) (maxL := 3) (ret := (some .int)) (by decide) rfl ?_
  intro p e s m args below meth c s₁ B hml hv
  obtain ⟨rfl, hP, hK⟩ := hv
  have hx := B.exec
  have hb := B.bytes
  have hr := B.returns
  have ht := tb_tl (atoms_spec (ws := wc yX10_get cX10_get 3 (some .int)) B.pre)
  have hown : s.vm.findClass RX10 = some m.cls := findClass_of_methodNamed B.named
  have hlocks := B.notSynchronized
  have hl := lv_entry [.ref (g 11 0), .int a, .int 4] (n := 3) (Nat.le_of_ble_eq_true rfl)
  rw [lg_entry_eq]
  generalize (lg_sl [.ref (g 11 0), .int a, .int 4] ++ List.replicate (3 - (lg_sl [.ref (g 11 0), .int a, .int 4]).length) Slot.unset).toArray = ls at hl ⊢
  have hl : lv_has ls 3 [(0, .ref (g 11 0)), (1, .int a), (2, .int 4)] := hl
  refine lv_aload_n hx hb dX10_get_0 rfl (lv_at hl 0 rfl) ?_
  refine gX_10_0 hx hb ht hown hK hP m_111 dX10_get_1 ?_
  refine lv_iload_n hx hb dX10_get_4 rfl (lv_at hl 1 rfl) ?_
  refine lv_bipush (v := 9) hx hb dX10_get_5 (by decide) ?_
  refine lv_imul hx hb dX10_get_7 ?_
  refine lv_topi (fun v1 ev1 => ?_)
  have tv1 := z_mul ev1 (rfl : (a).toInt = _) (by decide : (9 : Int32).toInt = 9) (by omega) (by omega)
  refine lv_iload_n hx hb dX10_get_8 rfl (lv_at hl 2 rfl) ?_
  refine lv_iadd hx hb dX10_get_9 ?_
  refine lv_topi (fun v2 ev2 => ?_)
  have tv2 := z_add ev2 (rfl : (v1).toInt = _) (by decide : (4 : Int32).toInt = 4) (by omega) (by omega)
  refine lX_10_0 hx hb hK hP (f := (fa 10 0)) rfl (vp_in_iff.mpr ⟨by omega, by omega⟩) dX10_get_10 ?_
  refine lv_topi (fun v3 ev3 => ?_)
  exact W.iret (v := v3) hx hb hr (fun t ht9 hW => ⟨v3, rfl, ⟨trivial, (show (v3 : Int32).toInt = ((fa 10 0) (9 * ((a).toInt).toNat + 4)).toInt from (by have h1 := congrArg Int32.toInt ev3; have h2 : (v2 : Int32).toNatClampNeg = 9 * (a.toInt).toNat + 4 := (by show (v2 : Int32).toInt.toNat = _; omega); rw [h2] at h1; exact h1))⟩, ht9⟩) (fun q hq => by cases hq) dX10_get_11
set_option maxHeartbeats 4000000 in
set_option maxRecDepth 100000 in
/-- X10_get -/
theorem c_X10_get_x7 (l : Launch) (dC : Nat → ClassId) (dI : Nat → Nat → Nat) (h : Nat) (g : Nat → Nat → Nat) (ca : Nat → Nat → ClassId) (iv : Nat → Nat → Int32) (lv : Nat → Nat → Int64) (fa : Nat → Nat → Nat → Int32) (la : Nat → Nat → Nat → Int64) (hI : IX iv fa) (a : Int32) (h_a : 0 ≤ a.toInt ∧ a.toInt ≤ 59) : Met l yX10_get (wc yX10_get cX10_get 3 (some .int)) ({ frames := 0, cells := 0, slots := 0, locals := 0 } : Room) (pR (dC, dI) classes (WX h g ca iv lv fa la) (TX ca) [.ref (g 11 0), .int a, .int 7]) (vp_Si (fun r => (True) ∧ (r.toInt = ((fa 10 0) (9 * (a.toInt).toNat + 7)).toInt))) 0 0 (fun _ => False) := by
  refine Met.ofW (cc := cX10_get) (maxL := 3) (ret := (some .int)) (by decide) rfl ?_
  intro p e s m args below meth c s₁ B hml hv
  obtain ⟨rfl, hP, hK⟩ := hv
  have hx := B.exec
  have hb := B.bytes
  have hr := B.returns
  have ht := tb_tl (atoms_spec (ws := wc yX10_get cX10_get 3 (some .int)) B.pre)
  have hown : s.vm.findClass RX10 = some m.cls := findClass_of_methodNamed B.named
  have hlocks := B.notSynchronized
  have hl := lv_entry [.ref (g 11 0), .int a, .int 7] (n := 3) (Nat.le_of_ble_eq_true rfl)
  rw [lg_entry_eq]
  generalize (lg_sl [.ref (g 11 0), .int a, .int 7] ++ List.replicate (3 - (lg_sl [.ref (g 11 0), .int a, .int 7]).length) Slot.unset).toArray = ls at hl ⊢
  have hl : lv_has ls 3 [(0, .ref (g 11 0)), (1, .int a), (2, .int 7)] := hl
  refine lv_aload_n hx hb dX10_get_0 rfl (lv_at hl 0 rfl) ?_
  refine gX_10_0 hx hb ht hown hK hP m_111 dX10_get_1 ?_
  refine lv_iload_n hx hb dX10_get_4 rfl (lv_at hl 1 rfl) ?_
  refine lv_bipush (v := 9) hx hb dX10_get_5 (by decide) ?_
  refine lv_imul hx hb dX10_get_7 ?_
  refine lv_topi (fun v1 ev1 => ?_)
  have tv1 := z_mul ev1 (rfl : (a).toInt = _) (by decide : (9 : Int32).toInt = 9) (by omega) (by omega)
  refine lv_iload_n hx hb dX10_get_8 rfl (lv_at hl 2 rfl) ?_
  refine lv_iadd hx hb dX10_get_9 ?_
  refine lv_topi (fun v2 ev2 => ?_)
  have tv2 := z_add ev2 (rfl : (v1).toInt = _) (by decide : (7 : Int32).toInt = 7) (by omega) (by omega)
  refine lX_10_0 hx hb hK hP (f := (fa 10 0)) rfl (vp_in_iff.mpr ⟨by omega, by omega⟩) dX10_get_10 ?_
  refine lv_topi (fun v3 ev3 => ?_)
  exact W.iret (v := v3) hx hb hr (fun t ht9 hW => ⟨v3, rfl, ⟨trivial, (show (v3 : Int32).toInt = ((fa 10 0) (9 * ((a).toInt).toNat + 7)).toInt from (by have h1 := congrArg Int32.toInt ev3; have h2 : (v2 : Int32).toNatClampNeg = 9 * (a.toInt).toNat + 7 := (by show (v2 : Int32).toInt.toNat = _; omega); rw [h2] at h1; exact h1))⟩, ht9⟩) (fun q hq => by cases hq) dX10_get_11
set_option maxHeartbeats 4000000 in
set_option maxRecDepth 100000 in
/-- X10_counts -/
theorem c_X10_counts_x (l : Launch) (dC : Nat → ClassId) (dI : Nat → Nat → Nat) (h : Nat) (g : Nat → Nat → Nat) (ca : Nat → Nat → ClassId) (iv : Nat → Nat → Int32) (lv : Nat → Nat → Int64) (fa : Nat → Nat → Nat → Int32) (la : Nat → Nat → Nat → Int64) (hI : IX iv fa) (a : Int32) (b : Int32) (h_a : 0 ≤ a.toInt ∧ a.toInt ≤ 59) : Met l yX10_counts (wc yX10_counts cX10_counts 3 (some .boolean)) ({ frames := 1, cells := 0, slots := 0, locals := 22 } : Room) (pR (dC, dI) classes (WX h g ca iv lv fa la) (TX ca) [.ref (g 11 0), .int a, .int b]) (vp_Si (fun r => (0 ≤ r.toInt ∧ r.toInt ≤ 1) ∧ (((r.toInt = 1 ∧ ((fa 10 0) (9 * (a.toInt).toNat + 7)).toInt ≤ b.toInt ∧ (((fa 10 0) (9 * (a.toInt).toNat + 8)).toInt = -1 ∨ b.toInt < ((fa 10 0) (9 * (a.toInt).toNat + 8)).toInt)) ∨ (r.toInt = 0 ∧ ¬ (((fa 10 0) (9 * (a.toInt).toNat + 7)).toInt ≤ b.toInt ∧ (((fa 10 0) (9 * (a.toInt).toNat + 8)).toInt = -1 ∨ b.toInt < ((fa 10 0) (9 * (a.toInt).toNat + 8)).toInt))))))) 0 0 (fun _ => False) := by
  refine Met.ofW (cc := cX10_counts) (maxL := 3) (ret := (some .boolean)) (by decide) rfl ?_
  intro p e s m args below meth c s₁ B hml hv
  obtain ⟨rfl, hP, hK⟩ := hv
  have hx := B.exec
  have hb := B.bytes
  have hr := B.returns
  have ht := tb_tl (atoms_spec (ws := wc yX10_counts cX10_counts 3 (some .boolean)) B.pre)
  have hown : s.vm.findClass RX10 = some m.cls := findClass_of_methodNamed B.named
  have hlocks := B.notSynchronized
  have hl := lv_entry [.ref (g 11 0), .int a, .int b] (n := 3) (Nat.le_of_ble_eq_true rfl)
  rw [lg_entry_eq]
  generalize (lg_sl [.ref (g 11 0), .int a, .int b] ++ List.replicate (3 - (lg_sl [.ref (g 11 0), .int a, .int b]).length) Slot.unset).toArray = ls at hl ⊢
  have hl : lv_has ls 3 [(0, .ref (g 11 0)), (1, .int a), (2, .int b)] := hl
  refine lv_aload_n hx hb dX10_counts_0 rfl (lv_at hl 0 rfl) ?_
  refine lv_iload_n hx hb dX10_counts_1 rfl (lv_at hl 1 rfl) ?_
  refine lv_bipush (v := 7) hx hb dX10_counts_2 (by decide) ?_
  refine vp_callSi (W.runV (As := [.int a, .int 7]) (rest := []) ⟨hx, hb, hml, hown, ht⟩ (c_X10_get_x7 l dC dI h g ca iv lv fa la hI a ⟨by omega, by omega⟩) (kV 2 ht m_485 m_486 m_487 m_78 m_488 rfl rfl hd_X10_get_v ⟨Nat.le_of_ble_eq_true rfl, Nat.le_of_ble_eq_true rfl⟩) (vR hP hK (rX_10 hK hP)) rfl rfl hl.1 rfl (lv_room (Nat.le_of_ble_eq_true rfl)) dX10_counts_4 ⟨Nat.le_of_ble_eq_true rfl, Nat.le_of_ble_eq_true rfl⟩) (fun r1 hr1 => ?_)
  obtain ⟨hr1, xr1_0⟩ := hr1
  have xr1_0 : (r1 : Int32).toInt = ((fa 10 0) (9 * ((a : Int32).toInt).toNat + 7)).toInt := xr1_0
  refine lv_iload_n hx hb dX10_counts_7 rfl (lv_at hl 2 rfl) ?_
  refine lv_icmp_gt (tgt := 37) hx hb dX10_counts_8 (by decide) (fun c2 => ?_) (fun c2 => ?_)
  · have fc2 := z_lt (rfl : (b).toInt = _) (rfl : (r1).toInt = _) c2
    refine lv_iconst (v := 0) hx hb dX10_counts_37 (by decide) ?_
    have : (0 : Int32).toInt = 0 := (by decide)
    exact W.zret (v := 0) hx hb hr rfl (fun t ht9 hW => ⟨0, rfl, ⟨⟨by decide, by decide⟩, (show (((0 : Int32).toInt = 1 ∧ ((fa 10 0) (9 * ((a).toInt).toNat + 7)).toInt ≤ (b).toInt ∧ (((fa 10 0) (9 * ((a).toInt).toNat + 8)).toInt = -1 ∨ (b).toInt < ((fa 10 0) (9 * ((a).toInt).toNat + 8)).toInt)) ∨ ((0 : Int32).toInt = 0 ∧ ¬ (((fa 10 0) (9 * ((a).toInt).toNat + 7)).toInt ≤ (b).toInt ∧ (((fa 10 0) (9 * ((a).toInt).toNat + 8)).toInt = -1 ∨ (b).toInt < ((fa 10 0) (9 * ((a).toInt).toNat + 8)).toInt)))) from by omega)⟩, ht9⟩) (fun q hq => by cases hq) dX10_counts_38
  · have fc2 := z_nlt (rfl : (b).toInt = _) (rfl : (r1).toInt = _) c2
    refine lv_aload_n hx hb dX10_counts_11 rfl (lv_at hl 0 rfl) ?_
    refine lv_iload_n hx hb dX10_counts_12 rfl (lv_at hl 1 rfl) ?_
    refine lv_bipush (v := 8) hx hb dX10_counts_13 (by decide) ?_
    refine vp_callSi (W.runV (As := [.int a, .int 8]) (rest := []) ⟨hx, hb, hml, hown, ht⟩ (c_X10_get_x8 l dC dI h g ca iv lv fa la hI a ⟨by omega, by omega⟩) (kV 2 ht m_485 m_486 m_487 m_78 m_488 rfl rfl hd_X10_get_v ⟨Nat.le_of_ble_eq_true rfl, Nat.le_of_ble_eq_true rfl⟩) (vR hP hK (rX_10 hK hP)) rfl rfl hl.1 rfl (lv_room (Nat.le_of_ble_eq_true rfl)) dX10_counts_15 ⟨Nat.le_of_ble_eq_true rfl, Nat.le_of_ble_eq_true rfl⟩) (fun r3 hr3 => ?_)
    obtain ⟨hr3, xr3_0⟩ := hr3
    have xr3_0 : (r3 : Int32).toInt = ((fa 10 0) (9 * ((a : Int32).toInt).toNat + 8)).toInt := xr3_0
    refine lv_iconst (v := (-1)) hx hb dX10_counts_18 (by decide) ?_
    refine lv_icmp_eq (tgt := 33) hx hb dX10_counts_19 (by decide) (fun c4 => ?_) (fun c4 => ?_)
    · have fc4 := z_eq (rfl : (r3).toInt = _) (by decide : ((-1) : Int32).toInt = (-1)) c4
      refine lv_iconst (v := 1) hx hb dX10_counts_33 (by decide) ?_
      refine lv_goto (tgt := 38) hx hb dX10_counts_34 (by decide) ?_
      have : (1 : Int32).toInt = 1 := (by decide)
      exact W.zret (v := 1) hx hb hr rfl (fun t ht9 hW => ⟨1, rfl, ⟨⟨by decide, by decide⟩, (show (((1 : Int32).toInt = 1 ∧ ((fa 10 0) (9 * ((a).toInt).toNat + 7)).toInt ≤ (b).toInt ∧ (((fa 10 0) (9 * ((a).toInt).toNat + 8)).toInt = -1 ∨ (b).toInt < ((fa 10 0) (9 * ((a).toInt).toNat + 8)).toInt)) ∨ ((1 : Int32).toInt = 0 ∧ ¬ (((fa 10 0) (9 * ((a).toInt).toNat + 7)).toInt ≤ (b).toInt ∧ (((fa 10 0) (9 * ((a).toInt).toNat + 8)).toInt = -1 ∨ (b).toInt < ((fa 10 0) (9 * ((a).toInt).toNat + 8)).toInt)))) from by omega)⟩, ht9⟩) (fun q hq => by cases hq) dX10_counts_38
    · have fc4 := z_ne (rfl : (r3).toInt = _) (by decide : ((-1) : Int32).toInt = (-1)) c4
      refine lv_aload_n hx hb dX10_counts_22 rfl (lv_at hl 0 rfl) ?_
      refine lv_iload_n hx hb dX10_counts_23 rfl (lv_at hl 1 rfl) ?_
      refine lv_bipush (v := 8) hx hb dX10_counts_24 (by decide) ?_
      refine vp_callSi (W.runV (As := [.int a, .int 8]) (rest := []) ⟨hx, hb, hml, hown, ht⟩ (c_X10_get_x8 l dC dI h g ca iv lv fa la hI a ⟨by omega, by omega⟩) (kV 2 ht m_485 m_486 m_487 m_78 m_488 rfl rfl hd_X10_get_v ⟨Nat.le_of_ble_eq_true rfl, Nat.le_of_ble_eq_true rfl⟩) (vR hP hK (rX_10 hK hP)) rfl rfl hl.1 rfl (lv_room (Nat.le_of_ble_eq_true rfl)) dX10_counts_26 ⟨Nat.le_of_ble_eq_true rfl, Nat.le_of_ble_eq_true rfl⟩) (fun r5 hr5 => ?_)
      obtain ⟨hr5, xr5_0⟩ := hr5
      have xr5_0 : (r5 : Int32).toInt = ((fa 10 0) (9 * ((a : Int32).toInt).toNat + 8)).toInt := xr5_0
      refine lv_iload_n hx hb dX10_counts_29 rfl (lv_at hl 2 rfl) ?_
      refine lv_icmp_le (tgt := 37) hx hb dX10_counts_30 (by decide) (fun c6 => ?_) (fun c6 => ?_)
      · have fc6 := z_le (rfl : (r5).toInt = _) (rfl : (b).toInt = _) c6
        refine lv_iconst (v := 0) hx hb dX10_counts_37 (by decide) ?_
        have : (0 : Int32).toInt = 0 := (by decide)
        exact W.zret (v := 0) hx hb hr rfl (fun t ht9 hW => ⟨0, rfl, ⟨⟨by decide, by decide⟩, (show (((0 : Int32).toInt = 1 ∧ ((fa 10 0) (9 * ((a).toInt).toNat + 7)).toInt ≤ (b).toInt ∧ (((fa 10 0) (9 * ((a).toInt).toNat + 8)).toInt = -1 ∨ (b).toInt < ((fa 10 0) (9 * ((a).toInt).toNat + 8)).toInt)) ∨ ((0 : Int32).toInt = 0 ∧ ¬ (((fa 10 0) (9 * ((a).toInt).toNat + 7)).toInt ≤ (b).toInt ∧ (((fa 10 0) (9 * ((a).toInt).toNat + 8)).toInt = -1 ∨ (b).toInt < ((fa 10 0) (9 * ((a).toInt).toNat + 8)).toInt)))) from by omega)⟩, ht9⟩) (fun q hq => by cases hq) dX10_counts_38
      · have fc6 := z_nle (rfl : (r5).toInt = _) (rfl : (b).toInt = _) c6
        refine lv_iconst (v := 1) hx hb dX10_counts_33 (by decide) ?_
        refine lv_goto (tgt := 38) hx hb dX10_counts_34 (by decide) ?_
        have : (1 : Int32).toInt = 1 := (by decide)
        exact W.zret (v := 1) hx hb hr rfl (fun t ht9 hW => ⟨1, rfl, ⟨⟨by decide, by decide⟩, (show (((1 : Int32).toInt = 1 ∧ ((fa 10 0) (9 * ((a).toInt).toNat + 7)).toInt ≤ (b).toInt ∧ (((fa 10 0) (9 * ((a).toInt).toNat + 8)).toInt = -1 ∨ (b).toInt < ((fa 10 0) (9 * ((a).toInt).toNat + 8)).toInt)) ∨ ((1 : Int32).toInt = 0 ∧ ¬ (((fa 10 0) (9 * ((a).toInt).toNat + 7)).toInt ≤ (b).toInt ∧ (((fa 10 0) (9 * ((a).toInt).toNat + 8)).toInt = -1 ∨ (b).toInt < ((fa 10 0) (9 * ((a).toInt).toNat + 8)).toInt)))) from by omega)⟩, ht9⟩) (fun q hq => by cases hq) dX10_counts_38
set_option maxHeartbeats 4000000 in
set_option maxRecDepth 100000 in
/-- X7_put -/
theorem c_X7_put_s30 (l : Launch) (dC : Nat → ClassId) (dI : Nat → Nat → Nat) (sz : Nat) (h : Nat) (g : Nat → Nat → Nat) (ca : Nat → Nat → ClassId) (iv : Nat → Nat → Int32) (lv : Nat → Nat → Int64) (fa : Nat → Nat → Nat → Int32) (la : Nat → Nat → Nat → Int64) (hI : IX iv fa) (a : Int32) (b : Int32) (d : Int32) (h_a : 0 ≤ a.toInt ∧ a.toInt ≤ 2) : Met l yX7_put (wc yX7_put cX7_put 4 none) ({ frames := 0, cells := 0, slots := 0, locals := 0 } : Room) (pW (dC, dI) classes (WX h g ca iv lv fa la) (TX ca) sz [.ref (g 3 2), .int a, .int b, .int d]) (va_Qv (fun (u : SS) => ∃ (na_30_2 : Nat → Int32) (nb_30_0 : Nat → Int64) (nb_30_1 : Nat → Int64), (∀ j : Nat, j ≠ a.toNatClampNeg → nb_30_0 j = (la 30 0) j) ∧ (∀ j : Nat, j ≠ a.toNatClampNeg → nb_30_1 j = (la 30 1) j) ∧ (∀ j : Nat, j ≠ a.toNatClampNeg → na_30_2 j = (fa 30 2) j) ∧ (nb_30_0 a.toNatClampNeg = (la 30 0) a.toNatClampNeg + (b).toInt64) ∧ (nb_30_1 a.toNatClampNeg = (la 30 1) a.toNatClampNeg + (d).toInt64) ∧ (na_30_2 a.toNatClampNeg = (fa 30 2) a.toNatClampNeg + 1) ∧ u = (iv, lv, (u2 fa 30 2 na_30_2), (u2 (u2 la 30 0 nb_30_0) 30 1 nb_30_1))) (bX (dC, dI) h g ca (va_A (WX h g ca iv lv fa la) sz)) (va_A (WX h g ca iv lv fa la) sz)) 0 0 (va_A (WX h g ca iv lv fa la) sz) := by
  refine Met.ofW (cc := cX7_put) (maxL := 4) (ret := none) (by decide) rfl ?_
  intro p e s m args below meth c s₁ B hml hv
  obtain ⟨rfl, hsz, hP, hK, hD0⟩ := hv
  have hx := B.exec
  have hb := B.bytes
  have hr := B.returns
  have ht := tb_tl (atoms_spec (ws := wc yX7_put cX7_put 4 none) B.pre)
  have hown : s.vm.findClass RX7 = some m.cls := findClass_of_methodNamed B.named
  have hlocks := B.notSynchronized
  subst hsz
  have hD := hD0.self (sz := s.heap.size)
  generalize hAe : va_A (WX h g ca iv lv fa la) s.heap.size = A at hD ⊢
  have hA : ∀ q : Nat, s.heap.size ≤ q → A q := fun q h => by rw [← hAe]; exact Or.inr h
  have hS : va_S A s.heap s.heap [] := va_S.rf
  have hl := lv_entry [.ref (g 3 2), .int a, .int b, .int d] (n := 4) (Nat.le_of_ble_eq_true rfl)
  rw [lg_entry_eq]
  generalize (lg_sl [.ref (g 3 2), .int a, .int b, .int d] ++ List.replicate (4 - (lg_sl [.ref (g 3 2), .int a, .int b, .int d]).length) Slot.unset).toArray = ls at hl ⊢
  have hl : lv_has ls 4 [(0, .ref (g 3 2)), (1, .int a), (2, .int b), (3, .int d)] := hl
  refine lv_aload_n hx hb dX7_put_0 rfl (lv_at hl 0 rfl) ?_
  refine gX_30_0 hx hb ht hown hK hP m_261 dX7_put_1 ?_
  refine lv_iload_n hx hb dX7_put_4 rfl (lv_at hl 1 rfl) ?_
  refine lv_dup2_11 hx hb dX7_put_5 rfl rfl ?_
  refine lX_30_0 hx hb hK hP (f := (la 30 0)) rfl (vp_in_iff.mpr ⟨by omega, by omega⟩) dX7_put_6 ?_
  refine lv_topl (fun w1 ew1 => ?_)
  refine lv_iload_n hx hb dX7_put_7 rfl (lv_at hl 2 rfl) ?_
  refine lv_i2l (v := (b.toInt64)) hx hb dX7_put_8 rfl ?_
  refine lv_ladd hx hb dX7_put_9 ?_
  refine lv_topl (fun w2 ew2 => ?_)
  refine tX_30_0 hx hb hK hP hD hS (f0 := (la 30 0)) rfl (i := a) (x := w2) (vp_in_iff.mpr ⟨by omega, by omega⟩) dX7_put_10 (fun f3 ef3 H locs hP hD hS => ?_)
  refine lv_aload_n hx hb dX7_put_11 rfl (lv_at hl 0 rfl) ?_
  refine gX_30_1 hx hb ht hown hK hP m_264 dX7_put_12 ?_
  refine lv_iload_n hx hb dX7_put_15 rfl (lv_at hl 1 rfl) ?_
  refine lv_dup2_11 hx hb dX7_put_16 rfl rfl ?_
  refine lX_30_1 hx hb hK hP (f := (la 30 1)) rfl (vp_in_iff.mpr ⟨by omega, by omega⟩) dX7_put_17 ?_
  refine lv_topl (fun w4 ew4 => ?_)
  refine lv_iload_n hx hb dX7_put_18 rfl (lv_at hl 3 rfl) ?_
  refine lv_i2l (v := (d.toInt64)) hx hb dX7_put_19 rfl ?_
  refine lv_ladd hx hb dX7_put_20 ?_
  refine lv_topl (fun w5 ew5 => ?_)
  refine tX_30_1 hx hb hK hP hD hS (f0 := (la 30 1)) rfl (i := a) (x := w5) (vp_in_iff.mpr ⟨by omega, by omega⟩) dX7_put_21 (fun f6 ef6 H locs hP hD hS => ?_)
  refine lv_aload_n hx hb dX7_put_22 rfl (lv_at hl 0 rfl) ?_
  refine gX_30_2 hx hb ht hown hK hP m_267 dX7_put_23 ?_
  refine lv_iload_n hx hb dX7_put_26 rfl (lv_at hl 1 rfl) ?_
  refine lv_dup2_11 hx hb dX7_put_27 rfl rfl ?_
  refine lX_30_2 hx hb hK hP (f := (fa 30 2)) rfl (vp_in_iff.mpr ⟨by omega, by omega⟩) dX7_put_28 ?_
  refine lv_topi (fun v7 ev7 => ?_)
  refine lv_iconst (v := 1) hx hb dX7_put_29 (by decide) ?_
  refine lv_iadd hx hb dX7_put_30 ?_
  refine lv_topi (fun v8 ev8 => ?_)
  refine tX_30_2 hx hb hK hP hD hS (f0 := (fa 30 2)) rfl (i := a) (x := v8) (vp_in_iff.mpr ⟨by omega, by omega⟩) dX7_put_31 (fun f9 ef9 H locs hP hD hS => ?_)
  have hf9 : ∀ j, inb (bA 30 2 j) (f9 j) := fun j => full_i _
  have hP9 : va_P (dC, dI) classes (WX h g ca iv lv (u2 fa 30 2 f9) (u2 (u2 la 30 0 f3) 30 1 f6)) H := hP
  have hD9 : va_D A (WX h g ca iv lv (u2 fa 30 2 f9) (u2 (u2 la 30 0 f3) 30 1 f6)) := hD
  exact W.vret hx hb hr (fun t ht9 hW => ⟨⟨(iv, lv, (u2 fa 30 2 f9), (u2 (u2 la 30 0 f3) 30 1 f6)), rfl, ⟨f9, f3, f6, (show ∀ j : Nat, j ≠ a.toNatClampNeg → f3 j = (la 30 0) j from fun j hj => by rw [ef3, updL_ne hj]), (show ∀ j : Nat, j ≠ a.toNatClampNeg → f6 j = (la 30 1) j from fun j hj => by rw [ef6, updL_ne hj]), (show ∀ j : Nat, j ≠ a.toNatClampNeg → f9 j = (fa 30 2) j from fun j hj => by rw [ef9, upd_ne hj]), (show f3 a.toNatClampNeg = (la 30 0) a.toNatClampNeg + (b).toInt64 from (by rw [ef3, updL_eq, ew2, ew1])), (show f6 a.toNatClampNeg = (la 30 1) a.toNatClampNeg + (d).toInt64 from (by rw [ef6, updL_eq, ew5, ew4])), (show f9 a.toNatClampNeg = (fa 30 2) a.toNatClampNeg + 1 from (by rw [ef9, upd_eq, ev8, ev7])), rfl⟩, by rw [ht9]; exact hP9, hD9⟩, hS.F ht9⟩) hS.2.2 dX7_put_32
set_option maxHeartbeats 4000000 in
set_option maxRecDepth 100000 in
/-- X7_clear -/
theorem c_X7_clear_s30 (l : Launch) (dC : Nat → ClassId) (dI : Nat → Nat → Nat) (sz : Nat) (h : Nat) (g : Nat → Nat → Nat) (ca : Nat → Nat → ClassId) (iv : Nat → Nat → Int32) (lv : Nat → Nat → Int64) (fa : Nat → Nat → Nat → Int32) (la : Nat → Nat → Nat → Int64) (hI : IX iv fa) : Met l yX7_clear (wc yX7_clear cX7_clear 2 none) ({ frames := 0, cells := 0, slots := 0, locals := 0 } : Room) (pW (dC, dI) classes (WX h g ca iv lv fa la) (TX ca) sz [.ref (g 3 2)]) (va_Qv (fun (u : SS) => ∃ (na_30_2 : Nat → Int32) (nb_30_0 : Nat → Int64) (nb_30_1 : Nat → Int64), (∀ j : Nat, j < 3 → nb_30_0 j = 0 ∧ nb_30_1 j = 0 ∧ na_30_2 j = 0) ∧ u = (iv, lv, (u2 fa 30 2 na_30_2), (u2 (u2 la 30 0 nb_30_0) 30 1 nb_30_1))) (bX (dC, dI) h g ca (va_A (WX h g ca iv lv fa la) sz)) (va_A (WX h g ca iv lv fa la) sz)) 0 0 (va_A (WX h g ca iv lv fa la) sz) := by
  refine Met.ofW (cc := cX7_clear) (maxL := 2) (ret := none) (by decide) rfl ?_
  intro p e s m args below meth c s₁ B hml hv
  obtain ⟨rfl, hsz, hP, hK, hD0⟩ := hv
  have hx := B.exec
  have hb := B.bytes
  have hr := B.returns
  have ht := tb_tl (atoms_spec (ws := wc yX7_clear cX7_clear 2 none) B.pre)
  have hown : s.vm.findClass RX7 = some m.cls := findClass_of_methodNamed B.named
  have hlocks := B.notSynchronized
  subst hsz
  have hD := hD0.self (sz := s.heap.size)
  generalize hAe : va_A (WX h g ca iv lv fa la) s.heap.size = A at hD ⊢
  have hA : ∀ q : Nat, s.heap.size ≤ q → A q := fun q h => by rw [← hAe]; exact Or.inr h
  have hS : va_S A s.heap s.heap [] := va_S.rf
  have hl := lv_entry [.ref (g 3 2)] (n := 2) (Nat.le_of_ble_eq_true rfl)
  rw [lg_entry_eq]
  generalize (lg_sl [.ref (g 3 2)] ++ List.replicate (2 - (lg_sl [.ref (g 3 2)]).length) Slot.unset).toArray = ls at hl ⊢
  have hl : lv_has ls 2 [(0, .ref (g 3 2))] := hl
  refine lv_iconst (v := 0) hx hb dX7_clear_0 (by decide) ?_
  refine lv_istore_n (lv' := [(1, .int 0), (0, .ref (g 3 2))]) hx hb dX7_clear_1 rfl hl (by decide) rfl (fun ls hl => ?_)
  refine lv_iload_n hx hb dX7_clear_2 rfl (lv_at hl 0 rfl) ?_
  refine lv_iconst (v := 3) hx hb dX7_clear_3 (by decide) ?_
  refine lv_icmp_ge (tgt := 34) hx hb dX7_clear_4 (by decide) (fun c1 => ?_) (fun c1 => ?_)
  · exact absurd c1 (by decide)
  · skip
    refine lv_aload_n hx hb dX7_clear_7 rfl (lv_at hl 1 rfl) ?_
    refine gX_30_0 hx hb ht hown hK hP m_261 dX7_clear_8 ?_
    refine lv_iload_n hx hb dX7_clear_11 rfl (lv_at hl 0 rfl) ?_
    refine lv_lconst (v := 0) hx hb dX7_clear_12 (by decide) ?_
    refine tX_30_0 hx hb hK hP hD hS (f0 := (la 30 0)) rfl (i := 0) (x := 0) (vp_in_iff.mpr (by decide)) dX7_clear_13 (fun f2 ef2 H locs hP hD hS => ?_)
    refine lv_aload_n hx hb dX7_clear_14 rfl (lv_at hl 1 rfl) ?_
    refine gX_30_1 hx hb ht hown hK hP m_264 dX7_clear_15 ?_
    refine lv_iload_n hx hb dX7_clear_18 rfl (lv_at hl 0 rfl) ?_
    refine lv_lconst (v := 0) hx hb dX7_clear_19 (by decide) ?_
    refine tX_30_1 hx hb hK hP hD hS (f0 := (la 30 1)) rfl (i := 0) (x := 0) (vp_in_iff.mpr (by decide)) dX7_clear_20 (fun f3 ef3 H locs hP hD hS => ?_)
    refine lv_aload_n hx hb dX7_clear_21 rfl (lv_at hl 1 rfl) ?_
    refine gX_30_2 hx hb ht hown hK hP m_267 dX7_clear_22 ?_
    refine lv_iload_n hx hb dX7_clear_25 rfl (lv_at hl 0 rfl) ?_
    refine lv_iconst (v := 0) hx hb dX7_clear_26 (by decide) ?_
    refine tX_30_2 hx hb hK hP hD hS (f0 := (fa 30 2)) rfl (i := 0) (x := 0) (vp_in_iff.mpr (by decide)) dX7_clear_27 (fun f4 ef4 H locs hP hD hS => ?_)
    have hf4 : ∀ j, inb (bA 30 2 j) (f4 j) := fun j => full_i _
    refine lv_iinc (v := 1) (lv' := [(1, .int 1), (0, .ref (g 3 2))]) hx hb dX7_clear_28 hl (k := 0) rfl (by decide) (by decide) rfl (fun ls hl => ?_)
    refine lv_goto (tgt := 2) hx hb dX7_clear_31 (by decide) ?_
    refine lv_iload_n hx hb dX7_clear_2 rfl (lv_at hl 0 rfl) ?_
    refine lv_iconst (v := 3) hx hb dX7_clear_3 (by decide) ?_
    refine lv_icmp_ge (tgt := 34) hx hb dX7_clear_4 (by decide) (fun c5 => ?_) (fun c5 => ?_)
    · exact absurd c5 (by decide)
    · skip
      refine lv_aload_n hx hb dX7_clear_7 rfl (lv_at hl 1 rfl) ?_
      refine gX_30_0 hx hb ht hown hK hP m_261 dX7_clear_8 ?_
      refine lv_iload_n hx hb dX7_clear_11 rfl (lv_at hl 0 rfl) ?_
      refine lv_lconst (v := 0) hx hb dX7_clear_12 (by decide) ?_
      refine tX_30_0 hx hb hK hP hD hS (f0 := f2) rfl (i := 1) (x := 0) (vp_in_iff.mpr (by decide)) dX7_clear_13 (fun f6 ef6 H locs hP hD hS => ?_)
      have hP : va_P (dC, dI) classes (WX h g ca iv lv (u2 fa 30 2 f4) (u2 (u2 la 30 0 f6) 30 1 f3)) H := hP
      have hD : va_D A (WX h g ca iv lv (u2 fa 30 2 f4) (u2 (u2 la 30 0 f6) 30 1 f3)) := hD
      refine lv_aload_n hx hb dX7_clear_14 rfl (lv_at hl 1 rfl) ?_
      refine gX_30_1 hx hb ht hown hK hP m_264 dX7_clear_15 ?_
      refine lv_iload_n hx hb dX7_clear_18 rfl (lv_at hl 0 rfl) ?_
      refine lv_lconst (v := 0) hx hb dX7_clear_19 (by decide) ?_
      refine tX_30_1 hx hb hK hP hD hS (f0 := f3) rfl (i := 1) (x := 0) (vp_in_iff.mpr (by decide)) dX7_clear_20 (fun f7 ef7 H locs hP hD hS => ?_)
      have hP : va_P (dC, dI) classes (WX h g ca iv lv (u2 fa 30 2 f4) (u2 (u2 la 30 0 f6) 30 1 f7)) H := hP
      have hD : va_D A (WX h g ca iv lv (u2 fa 30 2 f4) (u2 (u2 la 30 0 f6) 30 1 f7)) := hD
      refine lv_aload_n hx hb dX7_clear_21 rfl (lv_at hl 1 rfl) ?_
      refine gX_30_2 hx hb ht hown hK hP m_267 dX7_clear_22 ?_
      refine lv_iload_n hx hb dX7_clear_25 rfl (lv_at hl 0 rfl) ?_
      refine lv_iconst (v := 0) hx hb dX7_clear_26 (by decide) ?_
      refine tX_30_2 hx hb hK hP hD hS (f0 := f4) rfl (i := 1) (x := 0) (vp_in_iff.mpr (by decide)) dX7_clear_27 (fun f8 ef8 H locs hP hD hS => ?_)
      have hf8 : ∀ j, inb (bA 30 2 j) (f8 j) := fun j => full_i _
      have hP : va_P (dC, dI) classes (WX h g ca iv lv (u2 fa 30 2 f8) (u2 (u2 la 30 0 f6) 30 1 f7)) H := hP
      have hD : va_D A (WX h g ca iv lv (u2 fa 30 2 f8) (u2 (u2 la 30 0 f6) 30 1 f7)) := hD
      refine lv_iinc (v := 2) (lv' := [(1, .int 2), (0, .ref (g 3 2))]) hx hb dX7_clear_28 hl (k := 0) rfl (by decide) (by decide) rfl (fun ls hl => ?_)
      refine lv_goto (tgt := 2) hx hb dX7_clear_31 (by decide) ?_
      refine lv_iload_n hx hb dX7_clear_2 rfl (lv_at hl 0 rfl) ?_
      refine lv_iconst (v := 3) hx hb dX7_clear_3 (by decide) ?_
      refine lv_icmp_ge (tgt := 34) hx hb dX7_clear_4 (by decide) (fun c9 => ?_) (fun c9 => ?_)
      · exact absurd c9 (by decide)
      · skip
        refine lv_aload_n hx hb dX7_clear_7 rfl (lv_at hl 1 rfl) ?_
        refine gX_30_0 hx hb ht hown hK hP m_261 dX7_clear_8 ?_
        refine lv_iload_n hx hb dX7_clear_11 rfl (lv_at hl 0 rfl) ?_
        refine lv_lconst (v := 0) hx hb dX7_clear_12 (by decide) ?_
        refine tX_30_0 hx hb hK hP hD hS (f0 := f6) rfl (i := 2) (x := 0) (vp_in_iff.mpr (by decide)) dX7_clear_13 (fun f10 ef10 H locs hP hD hS => ?_)
        have hP : va_P (dC, dI) classes (WX h g ca iv lv (u2 fa 30 2 f8) (u2 (u2 la 30 0 f10) 30 1 f7)) H := hP
        have hD : va_D A (WX h g ca iv lv (u2 fa 30 2 f8) (u2 (u2 la 30 0 f10) 30 1 f7)) := hD
        refine lv_aload_n hx hb dX7_clear_14 rfl (lv_at hl 1 rfl) ?_
        refine gX_30_1 hx hb ht hown hK hP m_264 dX7_clear_15 ?_
        refine lv_iload_n hx hb dX7_clear_18 rfl (lv_at hl 0 rfl) ?_
        refine lv_lconst (v := 0) hx hb dX7_clear_19 (by decide) ?_
        refine tX_30_1 hx hb hK hP hD hS (f0 := f7) rfl (i := 2) (x := 0) (vp_in_iff.mpr (by decide)) dX7_clear_20 (fun f11 ef11 H locs hP hD hS => ?_)
        have hP : va_P (dC, dI) classes (WX h g ca iv lv (u2 fa 30 2 f8) (u2 (u2 la 30 0 f10) 30 1 f11)) H := hP
        have hD : va_D A (WX h g ca iv lv (u2 fa 30 2 f8) (u2 (u2 la 30 0 f10) 30 1 f11)) := hD
        refine lv_aload_n hx hb dX7_clear_21 rfl (lv_at hl 1 rfl) ?_
        refine gX_30_2 hx hb ht hown hK hP m_267 dX7_clear_22 ?_
        refine lv_iload_n hx hb dX7_clear_25 rfl (lv_at hl 0 rfl) ?_
        refine lv_iconst (v := 0) hx hb dX7_clear_26 (by decide) ?_
        refine tX_30_2 hx hb hK hP hD hS (f0 := f8) rfl (i := 2) (x := 0) (vp_in_iff.mpr (by decide)) dX7_clear_27 (fun f12 ef12 H locs hP hD hS => ?_)
        have hf12 : ∀ j, inb (bA 30 2 j) (f12 j) := fun j => full_i _
        have hP : va_P (dC, dI) classes (WX h g ca iv lv (u2 fa 30 2 f12) (u2 (u2 la 30 0 f10) 30 1 f11)) H := hP
        have hD : va_D A (WX h g ca iv lv (u2 fa 30 2 f12) (u2 (u2 la 30 0 f10) 30 1 f11)) := hD
        refine lv_iinc (v := 3) (lv' := [(1, .int 3), (0, .ref (g 3 2))]) hx hb dX7_clear_28 hl (k := 0) rfl (by decide) (by decide) rfl (fun ls hl => ?_)
        refine lv_goto (tgt := 2) hx hb dX7_clear_31 (by decide) ?_
        refine lv_iload_n hx hb dX7_clear_2 rfl (lv_at hl 0 rfl) ?_
        refine lv_iconst (v := 3) hx hb dX7_clear_3 (by decide) ?_
        refine lv_icmp_ge (tgt := 34) hx hb dX7_clear_4 (by decide) (fun c13 => ?_) (fun c13 => ?_)
        · skip
          have hP9 : va_P (dC, dI) classes (WX h g ca iv lv (u2 fa 30 2 f12) (u2 (u2 la 30 0 f10) 30 1 f11)) H := hP
          have hD9 : va_D A (WX h g ca iv lv (u2 fa 30 2 f12) (u2 (u2 la 30 0 f10) 30 1 f11)) := hD
          exact W.vret hx hb hr (fun t ht9 hW => ⟨⟨(iv, lv, (u2 fa 30 2 f12), (u2 (u2 la 30 0 f10) 30 1 f11)), rfl, ⟨f12, f10, f11, (show ∀ j : Nat, j < 3 → f10 j = 0 ∧ f11 j = 0 ∧ f12 j = 0 from (fun j hj => by
                rcases (by omega : j = 0 ∨ j = 1 ∨ j = 2) with rfl | rfl | rfl
                · exact ⟨(by rw [ef10, ef6, ef2]; rfl), (by rw [ef11, ef7, ef3]; rfl), (by rw [ef12, ef8, ef4]; rfl)⟩
                · exact ⟨(by rw [ef10, ef6, ef2]; rfl), (by rw [ef11, ef7, ef3]; rfl), (by rw [ef12, ef8, ef4]; rfl)⟩
                · exact ⟨(by rw [ef10, ef6, ef2]; rfl), (by rw [ef11, ef7, ef3]; rfl), (by rw [ef12, ef8, ef4]; rfl)⟩)), rfl⟩, by rw [ht9]; exact hP9, hD9⟩, hS.F ht9⟩) hS.2.2 dX7_clear_34
        · exact absurd c13 (by decide)
set_option maxHeartbeats 4000000 in
set_option maxRecDepth 100000 in
/-- X3_gather -/
theorem c_X3_gather_s (l : Launch) (dC : Nat → ClassId) (dI : Nat → Nat → Nat) (sz : Nat) (h : Nat) (g : Nat → Nat → Nat) (ca : Nat → Nat → ClassId) (iv : Nat → Nat → Int32) (lv : Nat → Nat → Int64) (fa : Nat → Nat → Nat → Int32) (la : Nat → Nat → Nat → Int64) (hI : IX iv fa) (a : Int32) (b : Int32) : Met l yX3_gather (wc yX3_gather cX3_gather 4 none) ({ frames := 2, cells := 0, slots := 0, locals := 44 } : Room) (pW (dC, dI) classes (WX h g ca iv lv fa la) (TX ca) sz [.ref (g 11 5), .int a, .int b]) (va_Qv (fun (u : SS) => ∃ (na_30_2 : Nat → Int32) (nb_30_0 : Nat → Int64) (nb_30_1 : Nat → Int64), (∀ l : Nat, l < 3 → nb_30_0 l = smL (fun s : Nat => ((fa 10 0) (9 * s + 0)).toInt = a.toInt ∧ ((fa 10 0) (9 * s + 1)).toInt = (l : Int) ∧ ((fa 10 0) (9 * s + 7)).toInt ≤ b.toInt ∧ (((fa 10 0) (9 * s + 8)).toInt = -1 ∨ b.toInt < ((fa 10 0) (9 * s + 8)).toInt)) (fun s : Nat => (fa 10 0) (9 * s + 3)) ((iv 10 1).toInt).toNat ∧ nb_30_1 l = smL (fun s : Nat => ((fa 10 0) (9 * s + 0)).toInt = a.toInt ∧ ((fa 10 0) (9 * s + 1)).toInt = (l : Int) ∧ ((fa 10 0) (9 * s + 7)).toInt ≤ b.toInt ∧ (((fa 10 0) (9 * s + 8)).toInt = -1 ∨ b.toInt < ((fa 10 0) (9 * s + 8)).toInt)) (fun s : Nat => (fa 10 0) (9 * s + 4)) ((iv 10 1).toInt).toNat ∧ na_30_2 l = smC (fun s : Nat => ((fa 10 0) (9 * s + 0)).toInt = a.toInt ∧ ((fa 10 0) (9 * s + 1)).toInt = (l : Int) ∧ ((fa 10 0) (9 * s + 7)).toInt ≤ b.toInt ∧ (((fa 10 0) (9 * s + 8)).toInt = -1 ∨ b.toInt < ((fa 10 0) (9 * s + 8)).toInt)) ((iv 10 1).toInt).toNat) ∧ u = (iv, lv, (u2 fa 30 2 na_30_2), (u2 (u2 la 30 0 nb_30_0) 30 1 nb_30_1))) (bX (dC, dI) h g ca (va_A (WX h g ca iv lv fa la) sz)) (va_A (WX h g ca iv lv fa la) sz)) 0 0 (va_A (WX h g ca iv lv fa la) sz) := by
  refine Met.ofW (cc := cX3_gather) (maxL := 4) (ret := none) (by decide) rfl ?_
  intro p e s m args below meth c s₁ B hml hv
  obtain ⟨rfl, hsz, hP, hK, hD0⟩ := hv
  have hx := B.exec
  have hb := B.bytes
  have hr := B.returns
  have ht := tb_tl (atoms_spec (ws := wc yX3_gather cX3_gather 4 none) B.pre)
  have hown : s.vm.findClass RX3 = some m.cls := findClass_of_methodNamed B.named
  have hlocks := B.notSynchronized
  subst hsz
  have hD := hD0.self (sz := s.heap.size)
  generalize hAe : va_A (WX h g ca iv lv fa la) s.heap.size = A at hD ⊢
  have hA : ∀ q : Nat, s.heap.size ≤ q → A q := fun q h => by rw [← hAe]; exact Or.inr h
  have hS : va_S A s.heap s.heap [] := va_S.rf
  have hl := lv_entry [.ref (g 11 5), .int a, .int b] (n := 4) (Nat.le_of_ble_eq_true rfl)
  rw [lg_entry_eq]
  generalize (lg_sl [.ref (g 11 5), .int a, .int b] ++ List.replicate (4 - (lg_sl [.ref (g 11 5), .int a, .int b]).length) Slot.unset).toArray = ls at hl ⊢
  have hl : lv_has ls 4 [(0, .ref (g 11 5)), (1, .int a), (2, .int b)] := hl
  refine lv_aload_n hx hb dX3_gather_0 rfl (lv_at hl 0 rfl) ?_
  refine gX_3_2 hx hb ht hown hK hP m_281 dX3_gather_1 ?_
  have hFc := free_all hD hS hA
  refine va_callv (va_runV (As := []) (rest := []) ⟨hx, hb, hml, hown, ht⟩ (c_X7_clear_s30 l dC dI s.heap.size h g ca iv lv fa la hI) (kV 0 ht m_568 m_569 m_570 m_84 m_571 rfl rfl hd_X7_clear_v ⟨Nat.le_of_ble_eq_true rfl, Nat.le_of_ble_eq_true rfl⟩) (vW hP hK hD (rX_30 hK hP)) rfl rfl hl.1 rfl (lv_room (Nat.le_of_ble_eq_true rfl)) dX3_gather_4 ⟨Nat.le_of_ble_eq_true rfl, Nat.le_of_ble_eq_true rfl⟩) hS (fun q _ h => hFc q h) hFc (fun u t H1 locs ht9 hvm hr1 hB hz1 hk1 hS => ?_)
  obtain ⟨n2, n3, n4, xr1_0, rfl⟩ := hr1
  have hn2 : ∀ j, inb (bA 30 2 j) (n2 j) := fun j => full_i _
  obtain ⟨hP, hD⟩ := hB
  rw [ht9] at hP
  generalize H1 = H at hP hS ⊢
  have hP : va_P (dC, dI) classes (WX h g ca iv lv (u2 fa 30 2 n2) (u2 (u2 la 30 0 n3) 30 1 n4)) H := hP
  have hD : va_D A (WX h g ca iv lv (u2 fa 30 2 n2) (u2 (u2 la 30 0 n3) 30 1 n4)) := (show va_D _ (WX h g ca iv lv (u2 fa 30 2 n2) (u2 (u2 la 30 0 n3) 30 1 n4)) from hD).weaken (fun _ _ _ h => hFc _ h)
  have xr1_0 : ∀ j : Nat, j < 3 → n3 j = 0 ∧ n4 j = 0 ∧ n2 j = 0 := xr1_0
  refine lv_iconst (v := 0) hx hb dX3_gather_7 (by decide) ?_
  refine lv_istore_n (lv' := [(3, .int 0), (0, .ref (g 11 5)), (1, .int a), (2, .int b)]) hx hb dX3_gather_8 rfl hl (by decide) rfl (fun ls hl => ?_)
  have i_10_1 : 0 ≤ (iv 10 1).toInt ∧ (iv 10 1).toInt ≤ 60 := hI.1 10 1
  have lp358 : ∀ (nn358 : Nat) (x357_3 : Int32) (w357_a_30_2 : Nat → Int32) (w357_b_30_0 : Nat → Int64) (w357_b_30_1 : Nat → Int64), 0 ≤ x357_3.toInt ∧ x357_3.toInt ≤ 60 → (∀ j, inb (bA 30 2 j) (w357_a_30_2 j)) → (∀ l : Nat, l < 3 → w357_b_30_0 l = smL (fun s : Nat => ((fa 10 0) (9 * s + 0)).toInt = (a).toInt ∧ ((fa 10 0) (9 * s + 1)).toInt = (l : Int) ∧ ((fa 10 0) (9 * s + 7)).toInt ≤ (b).toInt ∧ (((fa 10 0) (9 * s + 8)).toInt = -1 ∨ (b).toInt < ((fa 10 0) (9 * s + 8)).toInt)) (fun s : Nat => (fa 10 0) (9 * s + 3)) ((x357_3 : Int32).toInt).toNat ∧ w357_b_30_1 l = smL (fun s : Nat => ((fa 10 0) (9 * s + 0)).toInt = (a).toInt ∧ ((fa 10 0) (9 * s + 1)).toInt = (l : Int) ∧ ((fa 10 0) (9 * s + 7)).toInt ≤ (b).toInt ∧ (((fa 10 0) (9 * s + 8)).toInt = -1 ∨ (b).toInt < ((fa 10 0) (9 * s + 8)).toInt)) (fun s : Nat => (fa 10 0) (9 * s + 4)) ((x357_3 : Int32).toInt).toNat ∧ w357_a_30_2 l = smC (fun s : Nat => ((fa 10 0) (9 * s + 0)).toInt = (a).toInt ∧ ((fa 10 0) (9 * s + 1)).toInt = (l : Int) ∧ ((fa 10 0) (9 * s + 7)).toInt ≤ (b).toInt ∧ (((fa 10 0) (9 * s + 8)).toInt = -1 ∨ (b).toInt < ((fa 10 0) (9 * s + 8)).toInt)) ((x357_3 : Int32).toInt).toNat) → (x357_3 : Int32).toInt ≤ ((iv 10 1) : Int32).toInt → 60 - x357_3.toInt < (nn358 : Int) → ∀ (H : Heap) (locs : List Loc), ∀ (ls : Array Slot), va_P (dC, dI) classes (WX h g ca iv lv (u2 fa 30 2 w357_a_30_2) (u2 (u2 la 30 0 w357_b_30_0) 30 1 w357_b_30_1)) H → va_D A (WX h g ca iv lv (u2 fa 30 2 w357_a_30_2) (u2 (u2 la 30 0 w357_b_30_0) 30 1 w357_b_30_1)) → va_S A s.heap H locs → lv_has ls 4 [(3, .int x357_3), (0, .ref (g 11 5)), (1, .int a), (2, .int b)] → W p l e ({ frames := 2, cells := 0, slots := 0, locals := 44 } : Room) s m ([.ref (g 11 5), .int a, .int b] : List Value).toArray below meth c H locs 0 0 (MQ below (va_Qv (fun (u : SS) => ∃ (na_30_2 : Nat → Int32) (nb_30_0 : Nat → Int64) (nb_30_1 : Nat → Int64), (∀ l : Nat, l < 3 → nb_30_0 l = smL (fun s : Nat => ((fa 10 0) (9 * s + 0)).toInt = a.toInt ∧ ((fa 10 0) (9 * s + 1)).toInt = (l : Int) ∧ ((fa 10 0) (9 * s + 7)).toInt ≤ b.toInt ∧ (((fa 10 0) (9 * s + 8)).toInt = -1 ∨ b.toInt < ((fa 10 0) (9 * s + 8)).toInt)) (fun s : Nat => (fa 10 0) (9 * s + 3)) ((iv 10 1).toInt).toNat ∧ nb_30_1 l = smL (fun s : Nat => ((fa 10 0) (9 * s + 0)).toInt = a.toInt ∧ ((fa 10 0) (9 * s + 1)).toInt = (l : Int) ∧ ((fa 10 0) (9 * s + 7)).toInt ≤ b.toInt ∧ (((fa 10 0) (9 * s + 8)).toInt = -1 ∨ b.toInt < ((fa 10 0) (9 * s + 8)).toInt)) (fun s : Nat => (fa 10 0) (9 * s + 4)) ((iv 10 1).toInt).toNat ∧ na_30_2 l = smC (fun s : Nat => ((fa 10 0) (9 * s + 0)).toInt = a.toInt ∧ ((fa 10 0) (9 * s + 1)).toInt = (l : Int) ∧ ((fa 10 0) (9 * s + 7)).toInt ≤ b.toInt ∧ (((fa 10 0) (9 * s + 8)).toInt = -1 ∨ b.toInt < ((fa 10 0) (9 * s + 8)).toInt)) ((iv 10 1).toInt).toNat) ∧ u = (iv, lv, (u2 fa 30 2 na_30_2), (u2 (u2 la 30 0 nb_30_0) 30 1 nb_30_1))) (bX (dC, dI) h g ca A) A) ([.ref (g 11 5), .int a, .int b] : List Value).toArray s 0 0 A) (F0 m 9 ls []) := by
    intro nn358
    induction nn358 with
    | zero => intro x357_3 w357_a_30_2 w357_b_30_0 w357_b_30_1 hx357_3 hw357_a_30_2 hq358_0 hq358_1 hm358; exfalso; omega
    | succ nn358 ih358 =>
      intro x357_3 w357_a_30_2 w357_b_30_0 w357_b_30_1 hx357_3 hw357_a_30_2 hq358_0 hq358_1 hm358 H locs ls hP hD hS hl
      refine lv_iload_n hx hb dX3_gather_9 rfl (lv_at hl 0 rfl) ?_
      refine lv_aload_n hx hb dX3_gather_10 rfl (lv_at hl 1 rfl) ?_
      refine gX_3_0 hx hb ht hown hK hP m_279 dX3_gather_11 ?_
      refine gX_10_1 hx hb ht hown hK hP m_113 (v := (iv 10 1)) rfl dX3_gather_14 ?_
      refine lv_icmp_ge (tgt := 85) hx hb dX3_gather_17 (by decide) (fun c359 => ?_) (fun c359 => ?_)
      · have fc359 := z_le (rfl : ((iv 10 1)).toInt = _) (rfl : (x357_3).toInt = _) c359
        have hP9 : va_P (dC, dI) classes (WX h g ca iv lv (u2 fa 30 2 w357_a_30_2) (u2 (u2 la 30 0 w357_b_30_0) 30 1 w357_b_30_1)) H := hP
        have hD9 : va_D A (WX h g ca iv lv (u2 fa 30 2 w357_a_30_2) (u2 (u2 la 30 0 w357_b_30_0) 30 1 w357_b_30_1)) := hD
        exact W.vret hx hb hr (fun t ht9 hW => ⟨⟨(iv, lv, (u2 fa 30 2 w357_a_30_2), (u2 (u2 la 30 0 w357_b_30_0) 30 1 w357_b_30_1)), rfl, ⟨w357_a_30_2, w357_b_30_0, w357_b_30_1, (show ∀ l : Nat, l < 3 → w357_b_30_0 l = smL (fun s : Nat => ((fa 10 0) (9 * s + 0)).toInt = (a).toInt ∧ ((fa 10 0) (9 * s + 1)).toInt = (l : Int) ∧ ((fa 10 0) (9 * s + 7)).toInt ≤ (b).toInt ∧ (((fa 10 0) (9 * s + 8)).toInt = -1 ∨ (b).toInt < ((fa 10 0) (9 * s + 8)).toInt)) (fun s : Nat => (fa 10 0) (9 * s + 3)) (((iv 10 1) : Int32).toInt).toNat ∧ w357_b_30_1 l = smL (fun s : Nat => ((fa 10 0) (9 * s + 0)).toInt = (a).toInt ∧ ((fa 10 0) (9 * s + 1)).toInt = (l : Int) ∧ ((fa 10 0) (9 * s + 7)).toInt ≤ (b).toInt ∧ (((fa 10 0) (9 * s + 8)).toInt = -1 ∨ (b).toInt < ((fa 10 0) (9 * s + 8)).toInt)) (fun s : Nat => (fa 10 0) (9 * s + 4)) (((iv 10 1) : Int32).toInt).toNat ∧ w357_a_30_2 l = smC (fun s : Nat => ((fa 10 0) (9 * s + 0)).toInt = (a).toInt ∧ ((fa 10 0) (9 * s + 1)).toInt = (l : Int) ∧ ((fa 10 0) (9 * s + 7)).toInt ≤ (b).toInt ∧ (((fa 10 0) (9 * s + 8)).toInt = -1 ∨ (b).toInt < ((fa 10 0) (9 * s + 8)).toInt)) (((iv 10 1) : Int32).toInt).toNat from (by have hq9 := hq358_0; have he9 : (x357_3 : Int32).toInt = (iv 10 1).toInt := (by omega); rw [he9] at hq9; exact hq9)), rfl⟩, by rw [ht9]; exact hP9, hD9⟩, hS.F ht9⟩) hS.2.2 dX3_gather_85
      · have fc359 := z_nle (rfl : ((iv 10 1)).toInt = _) (rfl : (x357_3).toInt = _) c359
        refine lv_aload_n hx hb dX3_gather_20 rfl (lv_at hl 1 rfl) ?_
        refine gX_3_0 hx hb ht hown hK hP m_279 dX3_gather_21 ?_
        refine lv_iload_n hx hb dX3_gather_24 rfl (lv_at hl 0 rfl) ?_
        refine lv_iconst (v := 0) hx hb dX3_gather_25 (by decide) ?_
        refine vp_callSi (W.runV (As := [.int x357_3, .int 0]) (rest := []) ⟨hx, hb, hml, hown, ht⟩ (c_X10_get_x0 l dC dI h g ca iv lv (u2 fa 30 2 w357_a_30_2) (u2 (u2 la 30 0 w357_b_30_0) 30 1 w357_b_30_1) (IX_a (c := 30) (k := 2) hI hw357_a_30_2) x357_3 ⟨by omega, by omega⟩) (kV 2 ht m_572 m_486 m_487 m_78 m_488 rfl rfl hd_X10_get_v ⟨Nat.le_of_ble_eq_true rfl, Nat.le_of_ble_eq_true rfl⟩) (vR hP hK (rX_10 hK hP)) rfl rfl hl.1 rfl (lv_room (Nat.le_of_ble_eq_true rfl)) dX3_gather_26 ⟨Nat.le_of_ble_eq_true rfl, Nat.le_of_ble_eq_true rfl⟩) (fun r360 hr360 => ?_)
        obtain ⟨hr360, xr360_0⟩ := hr360
        have xr360_0 : (r360 : Int32).toInt = ((fa 10 0) (9 * ((x357_3 : Int32).toInt).toNat + 0)).toInt := xr360_0
        refine lv_iload_n hx hb dX3_gather_29 rfl (lv_at hl 2 rfl) ?_
        refine lv_icmp_ne (tgt := 79) hx hb dX3_gather_30 (by decide) (fun c361 => ?_) (fun c361 => ?_)
        · have fc361 := z_ne (rfl : (r360).toInt = _) (rfl : (a).toInt = _) c361
          obtain ⟨v362, ev362⟩ : ∃ y : Int32, y = x357_3 + 1 := ⟨_, rfl⟩
          have tv362 := z_add ev362 rfl (by decide : (1 : Int32).toInt = 1) (by omega) (by omega)
          refine lv_iinc (v := v362) (lv' := [(3, .int v362), (0, .ref (g 11 5)), (1, .int a), (2, .int b)]) hx hb dX3_gather_79 hl (k := 0) rfl (by rw [ev362]; rfl) (by decide) rfl (fun ls hl => ?_)
          refine lv_goto (tgt := 9) hx hb dX3_gather_82 (by decide) ?_
          exact ih358 v362 w357_a_30_2 w357_b_30_0 w357_b_30_1 ⟨by omega, by omega⟩ hw357_a_30_2 (show ∀ l : Nat, l < 3 → w357_b_30_0 l = smL (fun s : Nat => ((fa 10 0) (9 * s + 0)).toInt = (a).toInt ∧ ((fa 10 0) (9 * s + 1)).toInt = (l : Int) ∧ ((fa 10 0) (9 * s + 7)).toInt ≤ (b).toInt ∧ (((fa 10 0) (9 * s + 8)).toInt = -1 ∨ (b).toInt < ((fa 10 0) (9 * s + 8)).toInt)) (fun s : Nat => (fa 10 0) (9 * s + 3)) ((v362 : Int32).toInt).toNat ∧ w357_b_30_1 l = smL (fun s : Nat => ((fa 10 0) (9 * s + 0)).toInt = (a).toInt ∧ ((fa 10 0) (9 * s + 1)).toInt = (l : Int) ∧ ((fa 10 0) (9 * s + 7)).toInt ≤ (b).toInt ∧ (((fa 10 0) (9 * s + 8)).toInt = -1 ∨ (b).toInt < ((fa 10 0) (9 * s + 8)).toInt)) (fun s : Nat => (fa 10 0) (9 * s + 4)) ((v362 : Int32).toInt).toNat ∧ w357_a_30_2 l = smC (fun s : Nat => ((fa 10 0) (9 * s + 0)).toInt = (a).toInt ∧ ((fa 10 0) (9 * s + 1)).toInt = (l : Int) ∧ ((fa 10 0) (9 * s + 7)).toInt ≤ (b).toInt ∧ (((fa 10 0) (9 * s + 8)).toInt = -1 ∨ (b).toInt < ((fa 10 0) (9 * s + 8)).toInt)) ((v362 : Int32).toInt).toNat from (fun l hl => by
                have hs9 : ((v362 : Int32).toInt).toNat = ((x357_3 : Int32).toInt).toNat + 1 := by omega
                have hq9 := hq358_0 l hl
                have hc : ¬ ((fa 10 0 (9 * ((x357_3 : Int32).toInt).toNat + 0)).toInt = a.toInt ∧ (fa 10 0 (9 * ((x357_3 : Int32).toInt).toNat + 1)).toInt = (l : Int) ∧ (fa 10 0 (9 * ((x357_3 : Int32).toInt).toNat + 7)).toInt ≤ b.toInt ∧ ((fa 10 0 (9 * ((x357_3 : Int32).toInt).toNat + 8)).toInt = -1 ∨ b.toInt < (fa 10 0 (9 * ((x357_3 : Int32).toInt).toNat + 8)).toInt)) := by omega
                rw [smL_n hs9 hc, smL_n hs9 hc, smC_n hs9 hc]
                exact hq9)) (show (v362 : Int32).toInt ≤ ((iv 10 1) : Int32).toInt from by omega) (by omega) _ _ ls hP hD hS (lv_sub hl [0, 1, 2, 3] rfl)
        · have fc361 := z_eq (rfl : (r360).toInt = _) (rfl : (a).toInt = _) c361
          refine lv_aload_n hx hb dX3_gather_33 rfl (lv_at hl 1 rfl) ?_
          refine gX_3_0 hx hb ht hown hK hP m_279 dX3_gather_34 ?_
          refine lv_iload_n hx hb dX3_gather_37 rfl (lv_at hl 0 rfl) ?_
          refine lv_iload_n hx hb dX3_gather_38 rfl (lv_at hl 3 rfl) ?_
          refine vp_callSi (W.runV (As := [.int x357_3, .int b]) (rest := []) ⟨hx, hb, hml, hown, ht⟩ (c_X10_counts_x l dC dI h g ca iv lv (u2 fa 30 2 w357_a_30_2) (u2 (u2 la 30 0 w357_b_30_0) 30 1 w357_b_30_1) (IX_a (c := 30) (k := 2) hI hw357_a_30_2) x357_3 b ⟨by omega, by omega⟩) (kV 2 ht m_573 m_574 m_575 m_78 m_576 rfl rfl hd_X10_counts_v ⟨Nat.le_of_ble_eq_true rfl, Nat.le_of_ble_eq_true rfl⟩) (vR hP hK (rX_10 hK hP)) rfl rfl hl.1 rfl (lv_room (Nat.le_of_ble_eq_true rfl)) dX3_gather_39 ⟨Nat.le_of_ble_eq_true rfl, Nat.le_of_ble_eq_true rfl⟩) (fun r363 hr363 => ?_)
          obtain ⟨hr363, xr363_0⟩ := hr363
          have xr363_0 : (((r363 : Int32).toInt = 1 ∧ ((fa 10 0) (9 * ((x357_3 : Int32).toInt).toNat + 7)).toInt ≤ (b : Int32).toInt ∧ (((fa 10 0) (9 * ((x357_3 : Int32).toInt).toNat + 8)).toInt = -1 ∨ (b : Int32).toInt < ((fa 10 0) (9 * ((x357_3 : Int32).toInt).toNat + 8)).toInt)) ∨ ((r363 : Int32).toInt = 0 ∧ ¬ (((fa 10 0) (9 * ((x357_3 : Int32).toInt).toNat + 7)).toInt ≤ (b : Int32).toInt ∧ (((fa 10 0) (9 * ((x357_3 : Int32).toInt).toNat + 8)).toInt = -1 ∨ (b : Int32).toInt < ((fa 10 0) (9 * ((x357_3 : Int32).toInt).toNat + 8)).toInt)))) := xr363_0
          refine lv_if_eq (tgt := 79) hx hb dX3_gather_42 (by decide) (fun c364 => ?_) (fun c364 => ?_)
          · have fc364 := z_eq (rfl : (r363).toInt = _) (by decide : (0 : Int32).toInt = 0) c364
            obtain ⟨v365, ev365⟩ : ∃ y : Int32, y = x357_3 + 1 := ⟨_, rfl⟩
            have tv365 := z_add ev365 rfl (by decide : (1 : Int32).toInt = 1) (by omega) (by omega)
            refine lv_iinc (v := v365) (lv' := [(3, .int v365), (0, .ref (g 11 5)), (1, .int a), (2, .int b)]) hx hb dX3_gather_79 hl (k := 0) rfl (by rw [ev365]; rfl) (by decide) rfl (fun ls hl => ?_)
            refine lv_goto (tgt := 9) hx hb dX3_gather_82 (by decide) ?_
            exact ih358 v365 w357_a_30_2 w357_b_30_0 w357_b_30_1 ⟨by omega, by omega⟩ hw357_a_30_2 (show ∀ l : Nat, l < 3 → w357_b_30_0 l = smL (fun s : Nat => ((fa 10 0) (9 * s + 0)).toInt = (a).toInt ∧ ((fa 10 0) (9 * s + 1)).toInt = (l : Int) ∧ ((fa 10 0) (9 * s + 7)).toInt ≤ (b).toInt ∧ (((fa 10 0) (9 * s + 8)).toInt = -1 ∨ (b).toInt < ((fa 10 0) (9 * s + 8)).toInt)) (fun s : Nat => (fa 10 0) (9 * s + 3)) ((v365 : Int32).toInt).toNat ∧ w357_b_30_1 l = smL (fun s : Nat => ((fa 10 0) (9 * s + 0)).toInt = (a).toInt ∧ ((fa 10 0) (9 * s + 1)).toInt = (l : Int) ∧ ((fa 10 0) (9 * s + 7)).toInt ≤ (b).toInt ∧ (((fa 10 0) (9 * s + 8)).toInt = -1 ∨ (b).toInt < ((fa 10 0) (9 * s + 8)).toInt)) (fun s : Nat => (fa 10 0) (9 * s + 4)) ((v365 : Int32).toInt).toNat ∧ w357_a_30_2 l = smC (fun s : Nat => ((fa 10 0) (9 * s + 0)).toInt = (a).toInt ∧ ((fa 10 0) (9 * s + 1)).toInt = (l : Int) ∧ ((fa 10 0) (9 * s + 7)).toInt ≤ (b).toInt ∧ (((fa 10 0) (9 * s + 8)).toInt = -1 ∨ (b).toInt < ((fa 10 0) (9 * s + 8)).toInt)) ((v365 : Int32).toInt).toNat from (fun l hl => by
                  have hs9 : ((v365 : Int32).toInt).toNat = ((x357_3 : Int32).toInt).toNat + 1 := by omega
                  have hq9 := hq358_0 l hl
                  have hc : ¬ ((fa 10 0 (9 * ((x357_3 : Int32).toInt).toNat + 0)).toInt = a.toInt ∧ (fa 10 0 (9 * ((x357_3 : Int32).toInt).toNat + 1)).toInt = (l : Int) ∧ (fa 10 0 (9 * ((x357_3 : Int32).toInt).toNat + 7)).toInt ≤ b.toInt ∧ ((fa 10 0 (9 * ((x357_3 : Int32).toInt).toNat + 8)).toInt = -1 ∨ b.toInt < (fa 10 0 (9 * ((x357_3 : Int32).toInt).toNat + 8)).toInt)) := by omega
                  rw [smL_n hs9 hc, smL_n hs9 hc, smC_n hs9 hc]
                  exact hq9)) (show (v365 : Int32).toInt ≤ ((iv 10 1) : Int32).toInt from by omega) (by omega) _ _ ls hP hD hS (lv_sub hl [0, 1, 2, 3] rfl)
          · have fc364 := z_ne (rfl : (r363).toInt = _) (by decide : (0 : Int32).toInt = 0) c364
            refine lv_aload_n hx hb dX3_gather_45 rfl (lv_at hl 1 rfl) ?_
            refine gX_3_2 hx hb ht hown hK hP m_281 dX3_gather_46 ?_
            refine lv_aload_n hx hb dX3_gather_49 rfl (lv_at hl 1 rfl) ?_
            refine gX_3_0 hx hb ht hown hK hP m_279 dX3_gather_50 ?_
            refine lv_iload_n hx hb dX3_gather_53 rfl (lv_at hl 0 rfl) ?_
            refine lv_iconst (v := 1) hx hb dX3_gather_54 (by decide) ?_
            refine vp_callSi (W.runV (As := [.int x357_3, .int 1]) (rest := [.ref (g 3 2)]) ⟨hx, hb, hml, hown, ht⟩ (c_X10_get_x1 l dC dI h g ca iv lv (u2 fa 30 2 w357_a_30_2) (u2 (u2 la 30 0 w357_b_30_0) 30 1 w357_b_30_1) (IX_a (c := 30) (k := 2) hI hw357_a_30_2) x357_3 ⟨by omega, by omega⟩) (kV 2 ht m_572 m_486 m_487 m_78 m_488 rfl rfl hd_X10_get_v ⟨Nat.le_of_ble_eq_true rfl, Nat.le_of_ble_eq_true rfl⟩) (vR hP hK (rX_10 hK hP)) rfl rfl hl.1 rfl (lv_room (Nat.le_of_ble_eq_true rfl)) dX3_gather_55 ⟨Nat.le_of_ble_eq_true rfl, Nat.le_of_ble_eq_true rfl⟩) (fun r366 hr366 => ?_)
            obtain ⟨hr366, xr366_0⟩ := hr366
            have xr366_0 : (r366 : Int32).toInt = ((fa 10 0) (9 * ((x357_3 : Int32).toInt).toNat + 1)).toInt := xr366_0
            refine lv_aload_n hx hb dX3_gather_58 rfl (lv_at hl 1 rfl) ?_
            refine gX_3_0 hx hb ht hown hK hP m_279 dX3_gather_59 ?_
            refine lv_iload_n hx hb dX3_gather_62 rfl (lv_at hl 0 rfl) ?_
            refine lv_iconst (v := 3) hx hb dX3_gather_63 (by decide) ?_
            refine vp_callSi (W.runV (As := [.int x357_3, .int 3]) (rest := [.int r366, .ref (g 3 2)]) ⟨hx, hb, hml, hown, ht⟩ (c_X10_get_x3 l dC dI h g ca iv lv (u2 fa 30 2 w357_a_30_2) (u2 (u2 la 30 0 w357_b_30_0) 30 1 w357_b_30_1) (IX_a (c := 30) (k := 2) hI hw357_a_30_2) x357_3 ⟨by omega, by omega⟩) (kV 2 ht m_572 m_486 m_487 m_78 m_488 rfl rfl hd_X10_get_v ⟨Nat.le_of_ble_eq_true rfl, Nat.le_of_ble_eq_true rfl⟩) (vR hP hK (rX_10 hK hP)) rfl rfl hl.1 rfl (lv_room (Nat.le_of_ble_eq_true rfl)) dX3_gather_64 ⟨Nat.le_of_ble_eq_true rfl, Nat.le_of_ble_eq_true rfl⟩) (fun r367 hr367 => ?_)
            obtain ⟨hr367, xr367_0⟩ := hr367
            have xr367_0 : (r367 : Int32).toInt = ((fa 10 0) (9 * ((x357_3 : Int32).toInt).toNat + 3)).toInt := xr367_0
            refine lv_aload_n hx hb dX3_gather_67 rfl (lv_at hl 1 rfl) ?_
            refine gX_3_0 hx hb ht hown hK hP m_279 dX3_gather_68 ?_
            refine lv_iload_n hx hb dX3_gather_71 rfl (lv_at hl 0 rfl) ?_
            refine lv_iconst (v := 4) hx hb dX3_gather_72 (by decide) ?_
            refine vp_callSi (W.runV (As := [.int x357_3, .int 4]) (rest := [.int r367, .int r366, .ref (g 3 2)]) ⟨hx, hb, hml, hown, ht⟩ (c_X10_get_x4 l dC dI h g ca iv lv (u2 fa 30 2 w357_a_30_2) (u2 (u2 la 30 0 w357_b_30_0) 30 1 w357_b_30_1) (IX_a (c := 30) (k := 2) hI hw357_a_30_2) x357_3 ⟨by omega, by omega⟩) (kV 2 ht m_572 m_486 m_487 m_78 m_488 rfl rfl hd_X10_get_v ⟨Nat.le_of_ble_eq_true rfl, Nat.le_of_ble_eq_true rfl⟩) (vR hP hK (rX_10 hK hP)) rfl rfl hl.1 rfl (lv_room (Nat.le_of_ble_eq_true rfl)) dX3_gather_73 ⟨Nat.le_of_ble_eq_true rfl, Nat.le_of_ble_eq_true rfl⟩) (fun r368 hr368 => ?_)
            obtain ⟨hr368, xr368_0⟩ := hr368
            have xr368_0 : (r368 : Int32).toInt = ((fa 10 0) (9 * ((x357_3 : Int32).toInt).toNat + 4)).toInt := xr368_0
            have hFc := free_all hD hS hA
            refine va_callv (va_runV (As := [.int r366, .int r367, .int r368]) (rest := []) ⟨hx, hb, hml, hown, ht⟩ (c_X7_put_s30 l dC dI H.size h g ca iv lv (u2 fa 30 2 w357_a_30_2) (u2 (u2 la 30 0 w357_b_30_0) 30 1 w357_b_30_1) (IX_a (c := 30) (k := 2) hI hw357_a_30_2) r366 r367 r368 ⟨by omega, by omega⟩) (kV 3 ht m_577 m_578 m_579 m_84 m_580 rfl rfl hd_X7_put_v ⟨Nat.le_of_ble_eq_true rfl, Nat.le_of_ble_eq_true rfl⟩) (vW hP hK hD (rX_30 hK hP)) rfl rfl hl.1 rfl (lv_room (Nat.le_of_ble_eq_true rfl)) dX3_gather_76 ⟨Nat.le_of_ble_eq_true rfl, Nat.le_of_ble_eq_true rfl⟩) hS (fun q _ h => hFc q h) hFc (fun u t H1 locs ht9 hvm hr369 hB hz1 hk1 hS => ?_)
            obtain ⟨n370, n371, n372, xr369_0, xr369_1, xr369_2, xr369_3, xr369_4, xr369_5, rfl⟩ := hr369
            have hn370 : ∀ j, inb (bA 30 2 j) (n370 j) := fun j => full_i _
            obtain ⟨hP, hD⟩ := hB
            rw [ht9] at hP
            generalize H1 = H at hP hS ⊢
            have hP : va_P (dC, dI) classes (WX h g ca iv lv (u2 fa 30 2 n370) (u2 (u2 la 30 0 n371) 30 1 n372)) H := hP
            have hD : va_D A (WX h g ca iv lv (u2 fa 30 2 n370) (u2 (u2 la 30 0 n371) 30 1 n372)) := (show va_D _ (WX h g ca iv lv (u2 fa 30 2 n370) (u2 (u2 la 30 0 n371) 30 1 n372)) from hD).weaken (fun _ _ _ h => hFc _ h)
            have xr369_0 : ∀ j : Nat, j ≠ (r366 : Int32).toNatClampNeg → n371 j = w357_b_30_0 j := xr369_0
            have xr369_1 : ∀ j : Nat, j ≠ (r366 : Int32).toNatClampNeg → n372 j = w357_b_30_1 j := xr369_1
            have xr369_2 : ∀ j : Nat, j ≠ (r366 : Int32).toNatClampNeg → n370 j = w357_a_30_2 j := xr369_2
            have xr369_3 : n371 (r366 : Int32).toNatClampNeg = w357_b_30_0 (r366 : Int32).toNatClampNeg + ((r367 : Int32)).toInt64 := xr369_3
            have xr369_4 : n372 (r366 : Int32).toNatClampNeg = w357_b_30_1 (r366 : Int32).toNatClampNeg + ((r368 : Int32)).toInt64 := xr369_4
            have xr369_5 : n370 (r366 : Int32).toNatClampNeg = w357_a_30_2 (r366 : Int32).toNatClampNeg + 1 := xr369_5
            obtain ⟨v373, ev373⟩ : ∃ y : Int32, y = x357_3 + 1 := ⟨_, rfl⟩
            have tv373 := z_add ev373 rfl (by decide : (1 : Int32).toInt = 1) (by omega) (by omega)
            refine lv_iinc (v := v373) (lv' := [(3, .int v373), (0, .ref (g 11 5)), (1, .int a), (2, .int b)]) hx hb dX3_gather_79 hl (k := 0) rfl (by rw [ev373]; rfl) (by decide) rfl (fun ls hl => ?_)
            refine lv_goto (tgt := 9) hx hb dX3_gather_82 (by decide) ?_
            exact ih358 v373 n370 n371 n372 ⟨by omega, by omega⟩ hn370 (show ∀ l : Nat, l < 3 → n371 l = smL (fun s : Nat => ((fa 10 0) (9 * s + 0)).toInt = (a).toInt ∧ ((fa 10 0) (9 * s + 1)).toInt = (l : Int) ∧ ((fa 10 0) (9 * s + 7)).toInt ≤ (b).toInt ∧ (((fa 10 0) (9 * s + 8)).toInt = -1 ∨ (b).toInt < ((fa 10 0) (9 * s + 8)).toInt)) (fun s : Nat => (fa 10 0) (9 * s + 3)) ((v373 : Int32).toInt).toNat ∧ n372 l = smL (fun s : Nat => ((fa 10 0) (9 * s + 0)).toInt = (a).toInt ∧ ((fa 10 0) (9 * s + 1)).toInt = (l : Int) ∧ ((fa 10 0) (9 * s + 7)).toInt ≤ (b).toInt ∧ (((fa 10 0) (9 * s + 8)).toInt = -1 ∨ (b).toInt < ((fa 10 0) (9 * s + 8)).toInt)) (fun s : Nat => (fa 10 0) (9 * s + 4)) ((v373 : Int32).toInt).toNat ∧ n370 l = smC (fun s : Nat => ((fa 10 0) (9 * s + 0)).toInt = (a).toInt ∧ ((fa 10 0) (9 * s + 1)).toInt = (l : Int) ∧ ((fa 10 0) (9 * s + 7)).toInt ≤ (b).toInt ∧ (((fa 10 0) (9 * s + 8)).toInt = -1 ∨ (b).toInt < ((fa 10 0) (9 * s + 8)).toInt)) ((v373 : Int32).toInt).toNat from (fun l hl => by
                  have hs9 : ((v373 : Int32).toInt).toNat = ((x357_3 : Int32).toInt).toNat + 1 := by omega
                  have hq9 := hq358_0 l hl
                  by_cases hl2 : l = (r366 : Int32).toNatClampNeg
                  · have hl3 : (l : Int) = (r366 : Int32).toInt := by rw [hl2]; show (((r366 : Int32).toInt.toNat : Nat) : Int) = _; omega
                    have hc : (fa 10 0 (9 * ((x357_3 : Int32).toInt).toNat + 0)).toInt = a.toInt ∧ (fa 10 0 (9 * ((x357_3 : Int32).toInt).toNat + 1)).toInt = (l : Int) ∧ (fa 10 0 (9 * ((x357_3 : Int32).toInt).toNat + 7)).toInt ≤ b.toInt ∧ ((fa 10 0 (9 * ((x357_3 : Int32).toInt).toNat + 8)).toInt = -1 ∨ b.toInt < (fa 10 0 (9 * ((x357_3 : Int32).toInt).toNat + 8)).toInt) := ⟨by omega, by omega, by omega, by omega⟩
                    have hr : (r367 : Int32) = fa 10 0 (9 * ((x357_3 : Int32).toInt).toNat + 3) := Int32.toInt_inj.mp (by omega)
                    have hd : (r368 : Int32) = fa 10 0 (9 * ((x357_3 : Int32).toInt).toNat + 4) := Int32.toInt_inj.mp (by omega)
                    rw [smL_y hs9 hc, smL_y hs9 hc, smC_y hs9 hc, ← hq9.1, ← hq9.2.1, ← hq9.2.2, hl2, xr369_3, xr369_4, xr369_5, hr, hd]
                    exact ⟨rfl, rfl, rfl⟩
                  · have hc : ¬ ((fa 10 0 (9 * ((x357_3 : Int32).toInt).toNat + 0)).toInt = a.toInt ∧ (fa 10 0 (9 * ((x357_3 : Int32).toInt).toNat + 1)).toInt = (l : Int) ∧ (fa 10 0 (9 * ((x357_3 : Int32).toInt).toNat + 7)).toInt ≤ b.toInt ∧ ((fa 10 0 (9 * ((x357_3 : Int32).toInt).toNat + 8)).toInt = -1 ∨ b.toInt < (fa 10 0 (9 * ((x357_3 : Int32).toInt).toNat + 8)).toInt)) := fun z => hl2 (by show l = (r366 : Int32).toInt.toNat; omega)
                    rw [smL_n hs9 hc, smL_n hs9 hc, smC_n hs9 hc]
                    rw [xr369_0 l hl2, xr369_1 l hl2, xr369_2 l hl2]
                    exact hq9)) (show (v373 : Int32).toInt ≤ ((iv 10 1) : Int32).toInt from by omega) (by omega) _ _ ls hP hD hS (lv_sub hl [0, 1, 2, 3] rfl)
  have : (0 : Int32).toInt = 0 := (by decide)
  have i_10_1 : 0 ≤ (iv 10 1).toInt ∧ (iv 10 1).toInt ≤ 60 := hI.1 10 1
  exact lp358 61 0 n2 n3 n4 ⟨by decide, by decide⟩ hn2 (show ∀ l : Nat, l < 3 → n3 l = smL (fun s : Nat => ((fa 10 0) (9 * s + 0)).toInt = (a).toInt ∧ ((fa 10 0) (9 * s + 1)).toInt = (l : Int) ∧ ((fa 10 0) (9 * s + 7)).toInt ≤ (b).toInt ∧ (((fa 10 0) (9 * s + 8)).toInt = -1 ∨ (b).toInt < ((fa 10 0) (9 * s + 8)).toInt)) (fun s : Nat => (fa 10 0) (9 * s + 3)) ((0 : Int32).toInt).toNat ∧ n4 l = smL (fun s : Nat => ((fa 10 0) (9 * s + 0)).toInt = (a).toInt ∧ ((fa 10 0) (9 * s + 1)).toInt = (l : Int) ∧ ((fa 10 0) (9 * s + 7)).toInt ≤ (b).toInt ∧ (((fa 10 0) (9 * s + 8)).toInt = -1 ∨ (b).toInt < ((fa 10 0) (9 * s + 8)).toInt)) (fun s : Nat => (fa 10 0) (9 * s + 4)) ((0 : Int32).toInt).toNat ∧ n2 l = smC (fun s : Nat => ((fa 10 0) (9 * s + 0)).toInt = (a).toInt ∧ ((fa 10 0) (9 * s + 1)).toInt = (l : Int) ∧ ((fa 10 0) (9 * s + 7)).toInt ≤ (b).toInt ∧ (((fa 10 0) (9 * s + 8)).toInt = -1 ∨ (b).toInt < ((fa 10 0) (9 * s + 8)).toInt)) ((0 : Int32).toInt).toNat from (fun l hl => by have hz : ((0 : Int32).toInt).toNat = 0 := (by decide); rw [hz]; exact xr1_0 l hl)) (show (0 : Int32).toInt ≤ ((iv 10 1) : Int32).toInt from by omega) (by first | decide | omega) _ _ ls hP hD hS (lv_sub hl [0, 1, 2, 3] rfl)
/-! ===== sm2 ===== -/
set_option maxHeartbeats 4000000 in
set_option maxRecDepth 100000 in
/-- X12_sumUp -/
theorem c_X12_sumUp_s (l : Launch) (dC : Nat → ClassId) (dI : Nat → Nat → Nat) (sz : Nat) (h : Nat) (g : Nat → Nat → Nat) (ca : Nat → Nat → ClassId) (iv : Nat → Nat → Int32) (lv : Nat → Nat → Int64) (fa : Nat → Nat → Nat → Int32) (la : Nat → Nat → Nat → Int64) (hI : IX iv fa) (a : Int32) (b : Int32) (d : Int32) (q_12_20 : (-1) ≤ (iv 12 20).toInt ∧ (iv 12 20).toInt ≤ (-1)) (q_12_21 : (-1) ≤ (iv 12 21).toInt ∧ (iv 12 21).toInt ≤ (-1)) (q_12_22 : (-1) ≤ (iv 12 22).toInt ∧ (iv 12 22).toInt ≤ (-1)) (hJR : JRf (iv 12 3).toInt (fa 12 7)) : Met l yX12_sumUp (wc yX12_sumUp cX12_sumUp 6 (some .int)) ({ frames := 1, cells := 0, slots := 0, locals := 22 } : Room) (pW (dC, dI) classes (WM h g ca iv lv fa la) (TM ca) sz [.ref h, .int a, .int b, .int d]) (va_Qi (fun r (u : SS) => ∃ (ni_12_19 : Int32) (nl_12_17 : Int64) (nl_12_18 : Int64), (0 ≤ r.toInt) ∧ (r.toInt ≤ 60) ∧ (0 ≤ (nl_12_18).toInt) ∧ ((nl_12_18).toInt ≤ 599940) ∧ (100 * r.toInt ≤ (nl_12_18).toInt) ∧ ((nl_12_17).toInt = (smL (fun s : Nat => ((fa 12 4) s).toInt = a.toInt ∧ ((fa 12 5) s).toInt = b.toInt ∧ ((fa 12 11) s).toInt ≤ d.toInt ∧ (((fa 12 12) s).toInt < 0 ∨ d.toInt < ((fa 12 12) s).toInt)) (fa 12 8) ((iv 12 3).toInt).toNat).toInt) ∧ ((nl_12_18).toInt = (smL (fun s : Nat => ((fa 12 4) s).toInt = a.toInt ∧ ((fa 12 5) s).toInt = b.toInt ∧ ((fa 12 11) s).toInt ≤ d.toInt ∧ (((fa 12 12) s).toInt < 0 ∨ d.toInt < ((fa 12 12) s).toInt)) (fa 12 7) ((iv 12 3).toInt).toNat).toInt) ∧ ((ni_12_19).toInt = (smC (fun s : Nat => ((fa 12 4) s).toInt = a.toInt ∧ ((fa 12 5) s).toInt = b.toInt ∧ ((fa 12 11) s).toInt ≤ d.toInt ∧ (((fa 12 12) s).toInt < 0 ∨ d.toInt < ((fa 12 12) s).toInt)) ((iv 12 3).toInt).toNat).toInt) ∧ (r.toInt = (ni_12_19).toInt) ∧ (True) ∧ u = ((u2 iv 12 19 ni_12_19), (u2 (u2 lv 12 17 nl_12_17) 12 18 nl_12_18), fa, la)) (bM (dC, dI) h g ca (va_A (WM h g ca iv lv fa la) sz)) (va_A (WM h g ca iv lv fa la) sz)) 0 0 (va_A (WM h g ca iv lv fa la) sz) := by
  refine Met.ofW (cc := cX12_sumUp) (maxL := 6) (ret := (some .int)) (by decide) rfl ?_
  intro p e s m args below meth c s₁ B hml hv
  obtain ⟨rfl, hsz, hP, hK, hD0⟩ := hv
  have hx := B.exec
  have hb := B.bytes
  have hr := B.returns
  have ht := tb_tl (atoms_spec (ws := wc yX12_sumUp cX12_sumUp 6 (some .int)) B.pre)
  have hown : s.vm.findClass RX12 = some m.cls := findClass_of_methodNamed B.named
  have hlocks := B.notSynchronized
  subst hsz
  have hD := hD0.self (sz := s.heap.size)
  generalize hAe : va_A (WM h g ca iv lv fa la) s.heap.size = A at hD ⊢
  have hA : ∀ q : Nat, s.heap.size ≤ q → A q := fun q h => by rw [← hAe]; exact Or.inr h
  have hS : va_S A s.heap s.heap [] := va_S.rf
  have hl := lv_entry [.ref h, .int a, .int b, .int d] (n := 6) (Nat.le_of_ble_eq_true rfl)
  rw [lg_entry_eq]
  generalize (lg_sl [.ref h, .int a, .int b, .int d] ++ List.replicate (6 - (lg_sl [.ref h, .int a, .int b, .int d]).length) Slot.unset).toArray = ls at hl ⊢
  have hl : lv_has ls 6 [(0, .ref h), (1, .int a), (2, .int b), (3, .int d)] := hl
  refine lv_aload_n hx hb dX12_sumUp_0 rfl (lv_at hl 0 rfl) ?_
  refine lv_lconst (v := 0) hx hb dX12_sumUp_1 (by decide) ?_
  refine pM_12_17 (v := 0) hx hb ht hown hK hP hD hS m_1156 dX12_sumUp_2 (fun H locs hP hD hS => ?_)
  refine lv_aload_n hx hb dX12_sumUp_5 rfl (lv_at hl 0 rfl) ?_
  refine lv_lconst (v := 0) hx hb dX12_sumUp_6 (by decide) ?_
  refine pM_12_18 (v := 0) hx hb ht hown hK hP hD hS m_1157 dX12_sumUp_7 (fun H locs hP hD hS => ?_)
  refine lv_aload_n hx hb dX12_sumUp_10 rfl (lv_at hl 0 rfl) ?_
  refine lv_iconst (v := 0) hx hb dX12_sumUp_11 (by decide) ?_
  refine pM_12_19 (v := 0) hx hb ht hown hK hP hD hS m_1158 dX12_sumUp_12 (fun H locs hP hD hS => ?_)
  refine lv_iconst (v := 0) hx hb dX12_sumUp_15 (by decide) ?_
  refine lv_istore (lv' := [(4, .int 0), (0, .ref h), (1, .int a), (2, .int b), (3, .int d)]) hx hb dX12_sumUp_16 hl (by decide) rfl (fun ls hl => ?_)
  have i_12_3 : 0 ≤ (iv 12 3).toInt ∧ (iv 12 3).toInt ≤ 60 := hI.1 12 3
  have lp508 : ∀ (nn508 : Nat) (x507_4 : Int32) (w507_i_12_19 : Int32) (w507_l_12_17 : Int64) (w507_l_12_18 : Int64), 0 ≤ x507_4.toInt ∧ x507_4.toInt ≤ 60 → 0 ≤ (w507_l_12_18 : Int64).toInt → (w507_l_12_18 : Int64).toInt ≤ 9999 * (x507_4 : Int32).toInt → 100 * (w507_i_12_19 : Int32).toInt ≤ (w507_l_12_18 : Int64).toInt → 0 ≤ (w507_i_12_19 : Int32).toInt → (w507_i_12_19 : Int32).toInt ≤ (x507_4 : Int32).toInt → ((w507_l_12_17 : Int64).toInt = (smL (fun s : Nat => ((fa 12 4) s).toInt = (a).toInt ∧ ((fa 12 5) s).toInt = (b).toInt ∧ ((fa 12 11) s).toInt ≤ (d).toInt ∧ (((fa 12 12) s).toInt < 0 ∨ (d).toInt < ((fa 12 12) s).toInt)) (fa 12 8) ((x507_4 : Int32).toInt).toNat).toInt) → ((w507_l_12_18 : Int64).toInt = (smL (fun s : Nat => ((fa 12 4) s).toInt = (a).toInt ∧ ((fa 12 5) s).toInt = (b).toInt ∧ ((fa 12 11) s).toInt ≤ (d).toInt ∧ (((fa 12 12) s).toInt < 0 ∨ (d).toInt < ((fa 12 12) s).toInt)) (fa 12 7) ((x507_4 : Int32).toInt).toNat).toInt) → ((w507_i_12_19 : Int32).toInt = (smC (fun s : Nat => ((fa 12 4) s).toInt = (a).toInt ∧ ((fa 12 5) s).toInt = (b).toInt ∧ ((fa 12 11) s).toInt ≤ (d).toInt ∧ (((fa 12 12) s).toInt < 0 ∨ (d).toInt < ((fa 12 12) s).toInt)) ((x507_4 : Int32).toInt).toNat).toInt) → (x507_4 : Int32).toInt ≤ ((iv 12 3) : Int32).toInt → 60 - x507_4.toInt < (nn508 : Int) → ∀ (H : Heap) (locs : List Loc), ∀ (ls : Array Slot), va_P (dC, dI) classes (WM h g ca (u2 iv 12 19 w507_i_12_19) (u2 (u2 lv 12 17 w507_l_12_17) 12 18 w507_l_12_18) fa la) H → va_D A (WM h g ca (u2 iv 12 19 w507_i_12_19) (u2 (u2 lv 12 17 w507_l_12_17) 12 18 w507_l_12_18) fa la) → va_S A s.heap H locs → lv_has ls 6 [(4, .int x507_4), (0, .ref h), (1, .int a), (2, .int b), (3, .int d)] → W p l e ({ frames := 1, cells := 0, slots := 0, locals := 22 } : Room) s m ([.ref h, .int a, .int b, .int d] : List Value).toArray below meth c H locs 0 0 (MQ below (va_Qi (fun r (u : SS) => ∃ (ni_12_19 : Int32) (nl_12_17 : Int64) (nl_12_18 : Int64), (0 ≤ r.toInt) ∧ (r.toInt ≤ 60) ∧ (0 ≤ (nl_12_18).toInt) ∧ ((nl_12_18).toInt ≤ 599940) ∧ (100 * r.toInt ≤ (nl_12_18).toInt) ∧ ((nl_12_17).toInt = (smL (fun s : Nat => ((fa 12 4) s).toInt = a.toInt ∧ ((fa 12 5) s).toInt = b.toInt ∧ ((fa 12 11) s).toInt ≤ d.toInt ∧ (((fa 12 12) s).toInt < 0 ∨ d.toInt < ((fa 12 12) s).toInt)) (fa 12 8) ((iv 12 3).toInt).toNat).toInt) ∧ ((nl_12_18).toInt = (smL (fun s : Nat => ((fa 12 4) s).toInt = a.toInt ∧ ((fa 12 5) s).toInt = b.toInt ∧ ((fa 12 11) s).toInt ≤ d.toInt ∧ (((fa 12 12) s).toInt < 0 ∨ d.toInt < ((fa 12 12) s).toInt)) (fa 12 7) ((iv 12 3).toInt).toNat).toInt) ∧ ((ni_12_19).toInt = (smC (fun s : Nat => ((fa 12 4) s).toInt = a.toInt ∧ ((fa 12 5) s).toInt = b.toInt ∧ ((fa 12 11) s).toInt ≤ d.toInt ∧ (((fa 12 12) s).toInt < 0 ∨ d.toInt < ((fa 12 12) s).toInt)) ((iv 12 3).toInt).toNat).toInt) ∧ (r.toInt = (ni_12_19).toInt) ∧ (True) ∧ u = ((u2 iv 12 19 ni_12_19), (u2 (u2 lv 12 17 nl_12_17) 12 18 nl_12_18), fa, la)) (bM (dC, dI) h g ca A) A) ([.ref h, .int a, .int b, .int d] : List Value).toArray s 0 0 A) (F0 m 18 ls []) := by
    intro nn508
    induction nn508 with
    | zero => intro x507_4 w507_i_12_19 w507_l_12_17 w507_l_12_18 hx507_4 hq508_0 hq508_1 hq508_2 hq508_3 hq508_4 hq508_5 hq508_6 hq508_7 hq508_8 hm508; exfalso; omega
    | succ nn508 ih508 =>
      intro x507_4 w507_i_12_19 w507_l_12_17 w507_l_12_18 hx507_4 hq508_0 hq508_1 hq508_2 hq508_3 hq508_4 hq508_5 hq508_6 hq508_7 hq508_8 hm508 H locs ls hP hD hS hl
      refine lv_iload hx hb dX12_sumUp_18 (lv_at hl 0 rfl) ?_
      refine lv_aload_n hx hb dX12_sumUp_20 rfl (lv_at hl 1 rfl) ?_
      refine gM_12_3 hx hb ht hown hK hP m_1142 (v := (iv 12 3)) rfl dX12_sumUp_21 ?_
      refine lv_icmp_ge (tgt := 158) hx hb dX12_sumUp_24 (by decide) (fun c509 => ?_) (fun c509 => ?_)
      · have fc509 := z_le (rfl : ((iv 12 3)).toInt = _) (rfl : (x507_4).toInt = _) c509
        refine lv_aload_n hx hb dX12_sumUp_158 rfl (lv_at hl 1 rfl) ?_
        refine gM_12_19 hx hb ht hown hK hP m_1158 (v := w507_i_12_19) rfl dX12_sumUp_159 ?_
        have hP9 : va_P (dC, dI) classes (WM h g ca (u2 iv 12 19 w507_i_12_19) (u2 (u2 lv 12 17 w507_l_12_17) 12 18 w507_l_12_18) fa la) H := hP
        have hD9 : va_D A (WM h g ca (u2 iv 12 19 w507_i_12_19) (u2 (u2 lv 12 17 w507_l_12_17) 12 18 w507_l_12_18) fa la) := hD
        exact W.iret (v := w507_i_12_19) hx hb hr (fun t ht9 hW => ⟨⟨w507_i_12_19, ((u2 iv 12 19 w507_i_12_19), (u2 (u2 lv 12 17 w507_l_12_17) 12 18 w507_l_12_18), fa, la), rfl, ⟨w507_i_12_19, w507_l_12_17, w507_l_12_18, (show 0 ≤ (w507_i_12_19 : Int32).toInt from by omega), (show (w507_i_12_19 : Int32).toInt ≤ 60 from by omega), (show 0 ≤ (w507_l_12_18 : Int64).toInt from by omega), (show (w507_l_12_18 : Int64).toInt ≤ 599940 from by omega), (show 100 * (w507_i_12_19 : Int32).toInt ≤ (w507_l_12_18 : Int64).toInt from by omega), (show (w507_l_12_17 : Int64).toInt = (smL (fun s : Nat => ((fa 12 4) s).toInt = (a).toInt ∧ ((fa 12 5) s).toInt = (b).toInt ∧ ((fa 12 11) s).toInt ≤ (d).toInt ∧ (((fa 12 12) s).toInt < 0 ∨ (d).toInt < ((fa 12 12) s).toInt)) (fa 12 8) (((iv 12 3) : Int32).toInt).toNat).toInt from (by have hq9 := hq508_5; have he9 : (x507_4 : Int32).toInt = (iv 12 3).toInt := (by omega); rw [he9] at hq9; exact hq9)), (show (w507_l_12_18 : Int64).toInt = (smL (fun s : Nat => ((fa 12 4) s).toInt = (a).toInt ∧ ((fa 12 5) s).toInt = (b).toInt ∧ ((fa 12 11) s).toInt ≤ (d).toInt ∧ (((fa 12 12) s).toInt < 0 ∨ (d).toInt < ((fa 12 12) s).toInt)) (fa 12 7) (((iv 12 3) : Int32).toInt).toNat).toInt from (by have hq9 := hq508_6; have he9 : (x507_4 : Int32).toInt = (iv 12 3).toInt := (by omega); rw [he9] at hq9; exact hq9)), (show (w507_i_12_19 : Int32).toInt = (smC (fun s : Nat => ((fa 12 4) s).toInt = (a).toInt ∧ ((fa 12 5) s).toInt = (b).toInt ∧ ((fa 12 11) s).toInt ≤ (d).toInt ∧ (((fa 12 12) s).toInt < 0 ∨ (d).toInt < ((fa 12 12) s).toInt)) (((iv 12 3) : Int32).toInt).toNat).toInt from (by have hq9 := hq508_7; have he9 : (x507_4 : Int32).toInt = (iv 12 3).toInt := (by omega); rw [he9] at hq9; exact hq9)), (show (w507_i_12_19 : Int32).toInt = (w507_i_12_19 : Int32).toInt from by omega), trivial, rfl⟩, by rw [ht9]; exact hP9, hD9⟩, hS.F ht9⟩) hS.2.2 dX12_sumUp_162
      · have fc509 := z_nle (rfl : ((iv 12 3)).toInt = _) (rfl : (x507_4).toInt = _) c509
        refine lv_aload_n hx hb dX12_sumUp_27 rfl (lv_at hl 1 rfl) ?_
        refine gM_12_9 hx hb ht hown hK hP m_1148 dX12_sumUp_28 ?_
        refine lv_iload hx hb dX12_sumUp_31 (lv_at hl 0 rfl) ?_
        refine lM_12_9 hx hb hK hP (f := (fa 12 9)) rfl (vp_in_iff.mpr ⟨by omega, by omega⟩) dX12_sumUp_33 ?_
        refine lv_topi (fun v510 ev510 => ?_)
        have tv510 : 0 ≤ v510.toInt ∧ v510.toInt ≤ 3 := by rw [ev510]; exact hI.2 12 9 _
        refine lv_aload_n hx hb dX12_sumUp_34 rfl (lv_at hl 1 rfl) ?_
        refine gM_12_20 hx hb ht hown hK hP m_1159 (v := (iv 12 20)) rfl dX12_sumUp_35 ?_
        refine lv_icmp_eq (tgt := 64) hx hb dX12_sumUp_38 (by decide) (fun c511 => ?_) (fun c511 => ?_)
        · have fc511 := z_eq (rfl : (v510).toInt = _) (rfl : ((iv 12 20)).toInt = _) c511; exfalso; omega
        · skip
          refine lv_aload_n hx hb dX12_sumUp_41 rfl (lv_at hl 1 rfl) ?_
          refine gM_12_10 hx hb ht hown hK hP m_1149 dX12_sumUp_42 ?_
          refine lv_iload hx hb dX12_sumUp_45 (lv_at hl 0 rfl) ?_
          refine lM_12_10 hx hb hK hP (f := (fa 12 10)) rfl (vp_in_iff.mpr ⟨by omega, by omega⟩) dX12_sumUp_47 ?_
          refine lv_topi (fun v512 ev512 => ?_)
          have tv512 : 0 ≤ v512.toInt ∧ v512.toInt ≤ 7 := by rw [ev512]; exact hI.2 12 10 _
          refine lv_aload_n hx hb dX12_sumUp_48 rfl (lv_at hl 1 rfl) ?_
          refine gM_12_21 hx hb ht hown hK hP m_1160 (v := (iv 12 21)) rfl dX12_sumUp_49 ?_
          refine lv_icmp_eq (tgt := 64) hx hb dX12_sumUp_52 (by decide) (fun c513 => ?_) (fun c513 => ?_)
          · have fc513 := z_eq (rfl : (v512).toInt = _) (rfl : ((iv 12 21)).toInt = _) c513; exfalso; omega
          · skip
            refine lv_iload hx hb dX12_sumUp_55 (lv_at hl 0 rfl) ?_
            refine lv_aload_n hx hb dX12_sumUp_57 rfl (lv_at hl 1 rfl) ?_
            refine gM_12_22 hx hb ht hown hK hP m_1161 (v := (iv 12 22)) rfl dX12_sumUp_58 ?_
            refine lv_icmp_ne (tgt := 68) hx hb dX12_sumUp_61 (by decide) (fun c514 => ?_) (fun c514 => ?_)
            · skip
              refine lv_iconst (v := 0) hx hb dX12_sumUp_68 (by decide) ?_
              refine lv_istore (lv' := [(5, .int 0), (4, .int x507_4), (0, .ref h), (1, .int a), (2, .int b), (3, .int d)]) hx hb dX12_sumUp_69 hl (by decide) rfl (fun ls hl => ?_)
              refine lv_aload_n hx hb dX12_sumUp_71 rfl (lv_at hl 2 rfl) ?_
              refine gM_12_4 hx hb ht hown hK hP m_1143 dX12_sumUp_72 ?_
              refine lv_iload hx hb dX12_sumUp_75 (lv_at hl 1 rfl) ?_
              refine lM_12_4 hx hb hK hP (f := (fa 12 4)) rfl (vp_in_iff.mpr ⟨by omega, by omega⟩) dX12_sumUp_77 ?_
              refine lv_topi (fun v515 ev515 => ?_)
              refine lv_iload_n hx hb dX12_sumUp_78 rfl (lv_at hl 3 rfl) ?_
              refine lv_icmp_ne (tgt := 152) hx hb dX12_sumUp_79 (by decide) (fun c516 => ?_) (fun c516 => ?_)
              · have fc516 := z_ne (rfl : (v515).toInt = _) (rfl : (a).toInt = _) c516
                obtain ⟨v517, ev517⟩ : ∃ y : Int32, y = x507_4 + 1 := ⟨_, rfl⟩
                have tv517 := z_add ev517 rfl (by decide : (1 : Int32).toInt = 1) (by omega) (by omega)
                refine lv_iinc (v := v517) (lv' := [(4, .int v517), (5, .int 0), (0, .ref h), (1, .int a), (2, .int b), (3, .int d)]) hx hb dX12_sumUp_152 hl (k := 1) rfl (by rw [ev517]; rfl) (by decide) rfl (fun ls hl => ?_)
                refine lv_goto (tgt := 18) hx hb dX12_sumUp_155 (by decide) ?_
                exact ih508 v517 w507_i_12_19 w507_l_12_17 w507_l_12_18 ⟨by omega, by omega⟩ (show 0 ≤ (w507_l_12_18 : Int64).toInt from by omega) (show (w507_l_12_18 : Int64).toInt ≤ 9999 * (v517 : Int32).toInt from by omega) (show 100 * (w507_i_12_19 : Int32).toInt ≤ (w507_l_12_18 : Int64).toInt from by omega) (show 0 ≤ (w507_i_12_19 : Int32).toInt from by omega) (show (w507_i_12_19 : Int32).toInt ≤ (v517 : Int32).toInt from by omega) (show (w507_l_12_17 : Int64).toInt = (smL (fun s : Nat => ((fa 12 4) s).toInt = (a).toInt ∧ ((fa 12 5) s).toInt = (b).toInt ∧ ((fa 12 11) s).toInt ≤ (d).toInt ∧ (((fa 12 12) s).toInt < 0 ∨ (d).toInt < ((fa 12 12) s).toInt)) (fa 12 8) ((v517 : Int32).toInt).toNat).toInt from (by
                      have := congrArg Int32.toInt (show v510 = fa 12 9 ((x507_4 : Int32).toInt).toNat from ev510)
                      have := congrArg Int32.toInt (show v512 = fa 12 10 ((x507_4 : Int32).toInt).toNat from ev512)
                      have := congrArg Int32.toInt (show v515 = fa 12 4 ((x507_4 : Int32).toInt).toNat from ev515)
                      have hs9 : ((v517 : Int32).toInt).toNat = ((x507_4 : Int32).toInt).toNat + 1 := by omega
                      have hc : ¬ ((fa 12 4 ((x507_4 : Int32).toInt).toNat).toInt = a.toInt ∧ (fa 12 5 ((x507_4 : Int32).toInt).toNat).toInt = b.toInt ∧ (fa 12 11 ((x507_4 : Int32).toInt).toNat).toInt ≤ d.toInt ∧ ((fa 12 12 ((x507_4 : Int32).toInt).toNat).toInt < 0 ∨ d.toInt < (fa 12 12 ((x507_4 : Int32).toInt).toNat).toInt)) := by omega
                      rw [smL_n hs9 hc]; exact hq508_5)) (show (w507_l_12_18 : Int64).toInt = (smL (fun s : Nat => ((fa 12 4) s).toInt = (a).toInt ∧ ((fa 12 5) s).toInt = (b).toInt ∧ ((fa 12 11) s).toInt ≤ (d).toInt ∧ (((fa 12 12) s).toInt < 0 ∨ (d).toInt < ((fa 12 12) s).toInt)) (fa 12 7) ((v517 : Int32).toInt).toNat).toInt from (by
                      have := congrArg Int32.toInt (show v510 = fa 12 9 ((x507_4 : Int32).toInt).toNat from ev510)
                      have := congrArg Int32.toInt (show v512 = fa 12 10 ((x507_4 : Int32).toInt).toNat from ev512)
                      have := congrArg Int32.toInt (show v515 = fa 12 4 ((x507_4 : Int32).toInt).toNat from ev515)
                      have hs9 : ((v517 : Int32).toInt).toNat = ((x507_4 : Int32).toInt).toNat + 1 := by omega
                      have hc : ¬ ((fa 12 4 ((x507_4 : Int32).toInt).toNat).toInt = a.toInt ∧ (fa 12 5 ((x507_4 : Int32).toInt).toNat).toInt = b.toInt ∧ (fa 12 11 ((x507_4 : Int32).toInt).toNat).toInt ≤ d.toInt ∧ ((fa 12 12 ((x507_4 : Int32).toInt).toNat).toInt < 0 ∨ d.toInt < (fa 12 12 ((x507_4 : Int32).toInt).toNat).toInt)) := by omega
                      rw [smL_n hs9 hc]; exact hq508_6)) (show (w507_i_12_19 : Int32).toInt = (smC (fun s : Nat => ((fa 12 4) s).toInt = (a).toInt ∧ ((fa 12 5) s).toInt = (b).toInt ∧ ((fa 12 11) s).toInt ≤ (d).toInt ∧ (((fa 12 12) s).toInt < 0 ∨ (d).toInt < ((fa 12 12) s).toInt)) ((v517 : Int32).toInt).toNat).toInt from (by
                      have := congrArg Int32.toInt (show v510 = fa 12 9 ((x507_4 : Int32).toInt).toNat from ev510)
                      have := congrArg Int32.toInt (show v512 = fa 12 10 ((x507_4 : Int32).toInt).toNat from ev512)
                      have := congrArg Int32.toInt (show v515 = fa 12 4 ((x507_4 : Int32).toInt).toNat from ev515)
                      have hs9 : ((v517 : Int32).toInt).toNat = ((x507_4 : Int32).toInt).toNat + 1 := by omega
                      have hc : ¬ ((fa 12 4 ((x507_4 : Int32).toInt).toNat).toInt = a.toInt ∧ (fa 12 5 ((x507_4 : Int32).toInt).toNat).toInt = b.toInt ∧ (fa 12 11 ((x507_4 : Int32).toInt).toNat).toInt ≤ d.toInt ∧ ((fa 12 12 ((x507_4 : Int32).toInt).toNat).toInt < 0 ∨ d.toInt < (fa 12 12 ((x507_4 : Int32).toInt).toNat).toInt)) := by omega
                      rw [smC_n hs9 hc]; exact hq508_7)) (show (v517 : Int32).toInt ≤ ((iv 12 3) : Int32).toInt from by omega) (by omega) _ _ ls hP hD hS (lv_sub hl [0, 2, 3, 4, 5] rfl)
              · have fc516 := z_eq (rfl : (v515).toInt = _) (rfl : (a).toInt = _) c516
                refine lv_aload_n hx hb dX12_sumUp_82 rfl (lv_at hl 2 rfl) ?_
                refine gM_12_5 hx hb ht hown hK hP m_1144 dX12_sumUp_83 ?_
                refine lv_iload hx hb dX12_sumUp_86 (lv_at hl 1 rfl) ?_
                refine lM_12_5 hx hb hK hP (f := (fa 12 5)) rfl (vp_in_iff.mpr ⟨by omega, by omega⟩) dX12_sumUp_88 ?_
                refine lv_topi (fun v518 ev518 => ?_)
                refine lv_iload_n hx hb dX12_sumUp_89 rfl (lv_at hl 4 rfl) ?_
                refine lv_icmp_ne (tgt := 152) hx hb dX12_sumUp_90 (by decide) (fun c519 => ?_) (fun c519 => ?_)
                · have fc519 := z_ne (rfl : (v518).toInt = _) (rfl : (b).toInt = _) c519
                  obtain ⟨v520, ev520⟩ : ∃ y : Int32, y = x507_4 + 1 := ⟨_, rfl⟩
                  have tv520 := z_add ev520 rfl (by decide : (1 : Int32).toInt = 1) (by omega) (by omega)
                  refine lv_iinc (v := v520) (lv' := [(4, .int v520), (5, .int 0), (0, .ref h), (1, .int a), (2, .int b), (3, .int d)]) hx hb dX12_sumUp_152 hl (k := 1) rfl (by rw [ev520]; rfl) (by decide) rfl (fun ls hl => ?_)
                  refine lv_goto (tgt := 18) hx hb dX12_sumUp_155 (by decide) ?_
                  exact ih508 v520 w507_i_12_19 w507_l_12_17 w507_l_12_18 ⟨by omega, by omega⟩ (show 0 ≤ (w507_l_12_18 : Int64).toInt from by omega) (show (w507_l_12_18 : Int64).toInt ≤ 9999 * (v520 : Int32).toInt from by omega) (show 100 * (w507_i_12_19 : Int32).toInt ≤ (w507_l_12_18 : Int64).toInt from by omega) (show 0 ≤ (w507_i_12_19 : Int32).toInt from by omega) (show (w507_i_12_19 : Int32).toInt ≤ (v520 : Int32).toInt from by omega) (show (w507_l_12_17 : Int64).toInt = (smL (fun s : Nat => ((fa 12 4) s).toInt = (a).toInt ∧ ((fa 12 5) s).toInt = (b).toInt ∧ ((fa 12 11) s).toInt ≤ (d).toInt ∧ (((fa 12 12) s).toInt < 0 ∨ (d).toInt < ((fa 12 12) s).toInt)) (fa 12 8) ((v520 : Int32).toInt).toNat).toInt from (by
                        have := congrArg Int32.toInt (show v510 = fa 12 9 ((x507_4 : Int32).toInt).toNat from ev510)
                        have := congrArg Int32.toInt (show v512 = fa 12 10 ((x507_4 : Int32).toInt).toNat from ev512)
                        have := congrArg Int32.toInt (show v515 = fa 12 4 ((x507_4 : Int32).toInt).toNat from ev515)
                        have := congrArg Int32.toInt (show v518 = fa 12 5 ((x507_4 : Int32).toInt).toNat from ev518)
                        have hs9 : ((v520 : Int32).toInt).toNat = ((x507_4 : Int32).toInt).toNat + 1 := by omega
                        have hc : ¬ ((fa 12 4 ((x507_4 : Int32).toInt).toNat).toInt = a.toInt ∧ (fa 12 5 ((x507_4 : Int32).toInt).toNat).toInt = b.toInt ∧ (fa 12 11 ((x507_4 : Int32).toInt).toNat).toInt ≤ d.toInt ∧ ((fa 12 12 ((x507_4 : Int32).toInt).toNat).toInt < 0 ∨ d.toInt < (fa 12 12 ((x507_4 : Int32).toInt).toNat).toInt)) := by omega
                        rw [smL_n hs9 hc]; exact hq508_5)) (show (w507_l_12_18 : Int64).toInt = (smL (fun s : Nat => ((fa 12 4) s).toInt = (a).toInt ∧ ((fa 12 5) s).toInt = (b).toInt ∧ ((fa 12 11) s).toInt ≤ (d).toInt ∧ (((fa 12 12) s).toInt < 0 ∨ (d).toInt < ((fa 12 12) s).toInt)) (fa 12 7) ((v520 : Int32).toInt).toNat).toInt from (by
                        have := congrArg Int32.toInt (show v510 = fa 12 9 ((x507_4 : Int32).toInt).toNat from ev510)
                        have := congrArg Int32.toInt (show v512 = fa 12 10 ((x507_4 : Int32).toInt).toNat from ev512)
                        have := congrArg Int32.toInt (show v515 = fa 12 4 ((x507_4 : Int32).toInt).toNat from ev515)
                        have := congrArg Int32.toInt (show v518 = fa 12 5 ((x507_4 : Int32).toInt).toNat from ev518)
                        have hs9 : ((v520 : Int32).toInt).toNat = ((x507_4 : Int32).toInt).toNat + 1 := by omega
                        have hc : ¬ ((fa 12 4 ((x507_4 : Int32).toInt).toNat).toInt = a.toInt ∧ (fa 12 5 ((x507_4 : Int32).toInt).toNat).toInt = b.toInt ∧ (fa 12 11 ((x507_4 : Int32).toInt).toNat).toInt ≤ d.toInt ∧ ((fa 12 12 ((x507_4 : Int32).toInt).toNat).toInt < 0 ∨ d.toInt < (fa 12 12 ((x507_4 : Int32).toInt).toNat).toInt)) := by omega
                        rw [smL_n hs9 hc]; exact hq508_6)) (show (w507_i_12_19 : Int32).toInt = (smC (fun s : Nat => ((fa 12 4) s).toInt = (a).toInt ∧ ((fa 12 5) s).toInt = (b).toInt ∧ ((fa 12 11) s).toInt ≤ (d).toInt ∧ (((fa 12 12) s).toInt < 0 ∨ (d).toInt < ((fa 12 12) s).toInt)) ((v520 : Int32).toInt).toNat).toInt from (by
                        have := congrArg Int32.toInt (show v510 = fa 12 9 ((x507_4 : Int32).toInt).toNat from ev510)
                        have := congrArg Int32.toInt (show v512 = fa 12 10 ((x507_4 : Int32).toInt).toNat from ev512)
                        have := congrArg Int32.toInt (show v515 = fa 12 4 ((x507_4 : Int32).toInt).toNat from ev515)
                        have := congrArg Int32.toInt (show v518 = fa 12 5 ((x507_4 : Int32).toInt).toNat from ev518)
                        have hs9 : ((v520 : Int32).toInt).toNat = ((x507_4 : Int32).toInt).toNat + 1 := by omega
                        have hc : ¬ ((fa 12 4 ((x507_4 : Int32).toInt).toNat).toInt = a.toInt ∧ (fa 12 5 ((x507_4 : Int32).toInt).toNat).toInt = b.toInt ∧ (fa 12 11 ((x507_4 : Int32).toInt).toNat).toInt ≤ d.toInt ∧ ((fa 12 12 ((x507_4 : Int32).toInt).toNat).toInt < 0 ∨ d.toInt < (fa 12 12 ((x507_4 : Int32).toInt).toNat).toInt)) := by omega
                        rw [smC_n hs9 hc]; exact hq508_7)) (show (v520 : Int32).toInt ≤ ((iv 12 3) : Int32).toInt from by omega) (by omega) _ _ ls hP hD hS (lv_sub hl [0, 2, 3, 4, 5] rfl)
                · have fc519 := z_eq (rfl : (v518).toInt = _) (rfl : (b).toInt = _) c519
                  refine lv_aload_n hx hb dX12_sumUp_93 rfl (lv_at hl 2 rfl) ?_
                  refine lv_iload hx hb dX12_sumUp_94 (lv_at hl 1 rfl) ?_
                  refine lv_iload_n hx hb dX12_sumUp_96 rfl (lv_at hl 5 rfl) ?_
                  refine vp_callSi (W.runV (As := [.int x507_4, .int d]) (rest := []) ⟨hx, hb, hml, hown, ht⟩ (c_X12_isThere_x l dC dI h g ca (u2 iv 12 19 w507_i_12_19) (u2 (u2 lv 12 17 w507_l_12_17) 12 18 w507_l_12_18) fa la (IX_i (c := 12) (k := 19) hI (full_i _)) x507_4 d ⟨by omega, by omega⟩) (kV 2 ht m_1438 m_1440 m_46 m_89 m_1441 rfl rfl hd_X12_isThere_v ⟨Nat.le_of_ble_eq_true rfl, Nat.le_of_ble_eq_true rfl⟩) (vR hP hK (rM_12 hK hP)) rfl rfl hl.1 rfl (lv_room (Nat.le_of_ble_eq_true rfl)) dX12_sumUp_97 ⟨Nat.le_of_ble_eq_true rfl, Nat.le_of_ble_eq_true rfl⟩) (fun r521 hr521 => ?_)
                  obtain ⟨hr521, xr521_0⟩ := hr521
                  have xr521_0 : (((r521 : Int32).toInt = 1 ∧ ((fa 12 11) (x507_4 : Int32).toNatClampNeg).toInt ≤ (d : Int32).toInt ∧ (((fa 12 12) (x507_4 : Int32).toNatClampNeg).toInt < 0 ∨ (d : Int32).toInt < ((fa 12 12) (x507_4 : Int32).toNatClampNeg).toInt)) ∨ ((r521 : Int32).toInt = 0 ∧ ¬ (((fa 12 11) (x507_4 : Int32).toNatClampNeg).toInt ≤ (d : Int32).toInt ∧ (((fa 12 12) (x507_4 : Int32).toNatClampNeg).toInt < 0 ∨ (d : Int32).toInt < ((fa 12 12) (x507_4 : Int32).toNatClampNeg).toInt)))) := xr521_0
                  refine lv_if_eq (tgt := 152) hx hb dX12_sumUp_100 (by decide) (fun c522 => ?_) (fun c522 => ?_)
                  · have fc522 := z_eq (rfl : (r521).toInt = _) (by decide : (0 : Int32).toInt = 0) c522
                    obtain ⟨v523, ev523⟩ : ∃ y : Int32, y = x507_4 + 1 := ⟨_, rfl⟩
                    have tv523 := z_add ev523 rfl (by decide : (1 : Int32).toInt = 1) (by omega) (by omega)
                    refine lv_iinc (v := v523) (lv' := [(4, .int v523), (5, .int 0), (0, .ref h), (1, .int a), (2, .int b), (3, .int d)]) hx hb dX12_sumUp_152 hl (k := 1) rfl (by rw [ev523]; rfl) (by decide) rfl (fun ls hl => ?_)
                    refine lv_goto (tgt := 18) hx hb dX12_sumUp_155 (by decide) ?_
                    exact ih508 v523 w507_i_12_19 w507_l_12_17 w507_l_12_18 ⟨by omega, by omega⟩ (show 0 ≤ (w507_l_12_18 : Int64).toInt from by omega) (show (w507_l_12_18 : Int64).toInt ≤ 9999 * (v523 : Int32).toInt from by omega) (show 100 * (w507_i_12_19 : Int32).toInt ≤ (w507_l_12_18 : Int64).toInt from by omega) (show 0 ≤ (w507_i_12_19 : Int32).toInt from by omega) (show (w507_i_12_19 : Int32).toInt ≤ (v523 : Int32).toInt from by omega) (show (w507_l_12_17 : Int64).toInt = (smL (fun s : Nat => ((fa 12 4) s).toInt = (a).toInt ∧ ((fa 12 5) s).toInt = (b).toInt ∧ ((fa 12 11) s).toInt ≤ (d).toInt ∧ (((fa 12 12) s).toInt < 0 ∨ (d).toInt < ((fa 12 12) s).toInt)) (fa 12 8) ((v523 : Int32).toInt).toNat).toInt from (by
                          have := congrArg Int32.toInt (show v510 = fa 12 9 ((x507_4 : Int32).toInt).toNat from ev510)
                          have := congrArg Int32.toInt (show v512 = fa 12 10 ((x507_4 : Int32).toInt).toNat from ev512)
                          have := congrArg Int32.toInt (show v515 = fa 12 4 ((x507_4 : Int32).toInt).toNat from ev515)
                          have := congrArg Int32.toInt (show v518 = fa 12 5 ((x507_4 : Int32).toInt).toNat from ev518)
                          have y9 : ((r521 : Int32).toInt = 1 ∧ (fa 12 11 ((x507_4 : Int32).toInt).toNat).toInt ≤ (d : Int32).toInt ∧ ((fa 12 12 ((x507_4 : Int32).toInt).toNat).toInt < 0 ∨ (d : Int32).toInt < (fa 12 12 ((x507_4 : Int32).toInt).toNat).toInt)) ∨ ((r521 : Int32).toInt = 0 ∧ ¬ ((fa 12 11 ((x507_4 : Int32).toInt).toNat).toInt ≤ (d : Int32).toInt ∧ ((fa 12 12 ((x507_4 : Int32).toInt).toNat).toInt < 0 ∨ (d : Int32).toInt < (fa 12 12 ((x507_4 : Int32).toInt).toNat).toInt))) := xr521_0
                          have hs9 : ((v523 : Int32).toInt).toNat = ((x507_4 : Int32).toInt).toNat + 1 := by omega
                          have hc : ¬ ((fa 12 4 ((x507_4 : Int32).toInt).toNat).toInt = a.toInt ∧ (fa 12 5 ((x507_4 : Int32).toInt).toNat).toInt = b.toInt ∧ (fa 12 11 ((x507_4 : Int32).toInt).toNat).toInt ≤ d.toInt ∧ ((fa 12 12 ((x507_4 : Int32).toInt).toNat).toInt < 0 ∨ d.toInt < (fa 12 12 ((x507_4 : Int32).toInt).toNat).toInt)) := by omega
                          rw [smL_n hs9 hc]; exact hq508_5)) (show (w507_l_12_18 : Int64).toInt = (smL (fun s : Nat => ((fa 12 4) s).toInt = (a).toInt ∧ ((fa 12 5) s).toInt = (b).toInt ∧ ((fa 12 11) s).toInt ≤ (d).toInt ∧ (((fa 12 12) s).toInt < 0 ∨ (d).toInt < ((fa 12 12) s).toInt)) (fa 12 7) ((v523 : Int32).toInt).toNat).toInt from (by
                          have := congrArg Int32.toInt (show v510 = fa 12 9 ((x507_4 : Int32).toInt).toNat from ev510)
                          have := congrArg Int32.toInt (show v512 = fa 12 10 ((x507_4 : Int32).toInt).toNat from ev512)
                          have := congrArg Int32.toInt (show v515 = fa 12 4 ((x507_4 : Int32).toInt).toNat from ev515)
                          have := congrArg Int32.toInt (show v518 = fa 12 5 ((x507_4 : Int32).toInt).toNat from ev518)
                          have y9 : ((r521 : Int32).toInt = 1 ∧ (fa 12 11 ((x507_4 : Int32).toInt).toNat).toInt ≤ (d : Int32).toInt ∧ ((fa 12 12 ((x507_4 : Int32).toInt).toNat).toInt < 0 ∨ (d : Int32).toInt < (fa 12 12 ((x507_4 : Int32).toInt).toNat).toInt)) ∨ ((r521 : Int32).toInt = 0 ∧ ¬ ((fa 12 11 ((x507_4 : Int32).toInt).toNat).toInt ≤ (d : Int32).toInt ∧ ((fa 12 12 ((x507_4 : Int32).toInt).toNat).toInt < 0 ∨ (d : Int32).toInt < (fa 12 12 ((x507_4 : Int32).toInt).toNat).toInt))) := xr521_0
                          have hs9 : ((v523 : Int32).toInt).toNat = ((x507_4 : Int32).toInt).toNat + 1 := by omega
                          have hc : ¬ ((fa 12 4 ((x507_4 : Int32).toInt).toNat).toInt = a.toInt ∧ (fa 12 5 ((x507_4 : Int32).toInt).toNat).toInt = b.toInt ∧ (fa 12 11 ((x507_4 : Int32).toInt).toNat).toInt ≤ d.toInt ∧ ((fa 12 12 ((x507_4 : Int32).toInt).toNat).toInt < 0 ∨ d.toInt < (fa 12 12 ((x507_4 : Int32).toInt).toNat).toInt)) := by omega
                          rw [smL_n hs9 hc]; exact hq508_6)) (show (w507_i_12_19 : Int32).toInt = (smC (fun s : Nat => ((fa 12 4) s).toInt = (a).toInt ∧ ((fa 12 5) s).toInt = (b).toInt ∧ ((fa 12 11) s).toInt ≤ (d).toInt ∧ (((fa 12 12) s).toInt < 0 ∨ (d).toInt < ((fa 12 12) s).toInt)) ((v523 : Int32).toInt).toNat).toInt from (by
                          have := congrArg Int32.toInt (show v510 = fa 12 9 ((x507_4 : Int32).toInt).toNat from ev510)
                          have := congrArg Int32.toInt (show v512 = fa 12 10 ((x507_4 : Int32).toInt).toNat from ev512)
                          have := congrArg Int32.toInt (show v515 = fa 12 4 ((x507_4 : Int32).toInt).toNat from ev515)
                          have := congrArg Int32.toInt (show v518 = fa 12 5 ((x507_4 : Int32).toInt).toNat from ev518)
                          have y9 : ((r521 : Int32).toInt = 1 ∧ (fa 12 11 ((x507_4 : Int32).toInt).toNat).toInt ≤ (d : Int32).toInt ∧ ((fa 12 12 ((x507_4 : Int32).toInt).toNat).toInt < 0 ∨ (d : Int32).toInt < (fa 12 12 ((x507_4 : Int32).toInt).toNat).toInt)) ∨ ((r521 : Int32).toInt = 0 ∧ ¬ ((fa 12 11 ((x507_4 : Int32).toInt).toNat).toInt ≤ (d : Int32).toInt ∧ ((fa 12 12 ((x507_4 : Int32).toInt).toNat).toInt < 0 ∨ (d : Int32).toInt < (fa 12 12 ((x507_4 : Int32).toInt).toNat).toInt))) := xr521_0
                          have hs9 : ((v523 : Int32).toInt).toNat = ((x507_4 : Int32).toInt).toNat + 1 := by omega
                          have hc : ¬ ((fa 12 4 ((x507_4 : Int32).toInt).toNat).toInt = a.toInt ∧ (fa 12 5 ((x507_4 : Int32).toInt).toNat).toInt = b.toInt ∧ (fa 12 11 ((x507_4 : Int32).toInt).toNat).toInt ≤ d.toInt ∧ ((fa 12 12 ((x507_4 : Int32).toInt).toNat).toInt < 0 ∨ d.toInt < (fa 12 12 ((x507_4 : Int32).toInt).toNat).toInt)) := by omega
                          rw [smC_n hs9 hc]; exact hq508_7)) (show (v523 : Int32).toInt ≤ ((iv 12 3) : Int32).toInt from by omega) (by omega) _ _ ls hP hD hS (lv_sub hl [0, 2, 3, 4, 5] rfl)
                  · have fc522 := z_ne (rfl : (r521).toInt = _) (by decide : (0 : Int32).toInt = 0) c522
                    refine lv_iload hx hb dX12_sumUp_103 (lv_at hl 0 rfl) ?_
                    refine lv_if_ne (tgt := 152) hx hb dX12_sumUp_105 (by decide) (fun c524 => ?_) (fun c524 => ?_)
                    · exact absurd rfl c524
                    · skip
                      refine lv_aload_n hx hb dX12_sumUp_108 rfl (lv_at hl 2 rfl) ?_
                      refine lv_dup hx hb dX12_sumUp_109 rfl ?_
                      refine gM_12_17 hx hb ht hown hK hP m_1156 (v := w507_l_12_17) rfl dX12_sumUp_110 ?_
                      refine lv_aload_n hx hb dX12_sumUp_113 rfl (lv_at hl 2 rfl) ?_
                      refine gM_12_8 hx hb ht hown hK hP m_1147 dX12_sumUp_114 ?_
                      refine lv_iload hx hb dX12_sumUp_117 (lv_at hl 1 rfl) ?_
                      refine lM_12_8 hx hb hK hP (f := (fa 12 8)) rfl (vp_in_iff.mpr ⟨by omega, by omega⟩) dX12_sumUp_119 ?_
                      refine lv_topi (fun v525 ev525 => ?_)
                      refine lv_i2l (v := (v525.toInt64)) hx hb dX12_sumUp_120 rfl ?_
                      refine lv_ladd hx hb dX12_sumUp_121 ?_
                      refine lv_topl (fun w526 ew526 => ?_)
                      refine pM_12_17 (v := w526) hx hb ht hown hK hP hD hS m_1156 dX12_sumUp_122 (fun H locs hP hD hS => ?_)
                      have hP : va_P (dC, dI) classes (WM h g ca (u2 iv 12 19 w507_i_12_19) (u2 (u2 lv 12 17 w526) 12 18 w507_l_12_18) fa la) H := hP
                      have hD : va_D A (WM h g ca (u2 iv 12 19 w507_i_12_19) (u2 (u2 lv 12 17 w526) 12 18 w507_l_12_18) fa la) := hD
                      refine lv_aload_n hx hb dX12_sumUp_125 rfl (lv_at hl 2 rfl) ?_
                      refine lv_dup hx hb dX12_sumUp_126 rfl ?_
                      refine gM_12_18 hx hb ht hown hK hP m_1157 (v := w507_l_12_18) rfl dX12_sumUp_127 ?_
                      refine lv_aload_n hx hb dX12_sumUp_130 rfl (lv_at hl 2 rfl) ?_
                      refine gM_12_7 hx hb ht hown hK hP m_1146 dX12_sumUp_131 ?_
                      refine lv_iload hx hb dX12_sumUp_134 (lv_at hl 1 rfl) ?_
                      refine lM_12_7 hx hb hK hP (f := (fa 12 7)) rfl (vp_in_iff.mpr ⟨by omega, by omega⟩) dX12_sumUp_136 ?_
                      refine lv_topi (fun v527 ev527 => ?_)
                      have tv527 : 0 ≤ v527.toInt ∧ v527.toInt ≤ 9999 := by rw [ev527]; exact hI.2 12 7 _
                      have hr9 := hJR (x507_4 : Int32).toNatClampNeg (by show (((x507_4 : Int32).toInt.toNat : Nat) : Int) < _; omega)
                      rw [← ev527] at hr9
                      refine lv_i2l (v := (v527.toInt64)) hx hb dX12_sumUp_137 rfl ?_
                      have : 0 ≤ (w507_l_12_18 : Int64).toInt ∧ (w507_l_12_18 : Int64).toInt ≤ 599940 := ⟨by omega, by omega⟩
                      refine lv_ladd hx hb dX12_sumUp_138 ?_
                      refine lv_topl (fun w528 ew528 => ?_)
                      have tw528 := l_add ew528 (rfl : (w507_l_12_18).toInt = _) ((Int32.toInt_toInt64 v527).trans rfl) (by omega) (by omega)
                      refine pM_12_18 (v := w528) hx hb ht hown hK hP hD hS m_1157 dX12_sumUp_139 (fun H locs hP hD hS => ?_)
                      have hP : va_P (dC, dI) classes (WM h g ca (u2 iv 12 19 w507_i_12_19) (u2 (u2 lv 12 17 w526) 12 18 w528) fa la) H := hP
                      have hD : va_D A (WM h g ca (u2 iv 12 19 w507_i_12_19) (u2 (u2 lv 12 17 w526) 12 18 w528) fa la) := hD
                      refine lv_aload_n hx hb dX12_sumUp_142 rfl (lv_at hl 2 rfl) ?_
                      refine lv_dup hx hb dX12_sumUp_143 rfl ?_
                      refine gM_12_19 hx hb ht hown hK hP m_1158 (v := w507_i_12_19) rfl dX12_sumUp_144 ?_
                      refine lv_iconst (v := 1) hx hb dX12_sumUp_147 (by decide) ?_
                      have : 0 ≤ (w507_i_12_19 : Int32).toInt ∧ (w507_i_12_19 : Int32).toInt ≤ 59 := ⟨by omega, by omega⟩
                      refine lv_iadd hx hb dX12_sumUp_148 ?_
                      refine lv_topi (fun v529 ev529 => ?_)
                      have tv529 := z_add ev529 (rfl : (w507_i_12_19).toInt = _) (by decide : (1 : Int32).toInt = 1) (by omega) (by omega)
                      refine pM_12_19 (v := v529) hx hb ht hown hK hP hD hS m_1158 dX12_sumUp_149 (fun H locs hP hD hS => ?_)
                      have hP : va_P (dC, dI) classes (WM h g ca (u2 iv 12 19 v529) (u2 (u2 lv 12 17 w526) 12 18 w528) fa la) H := hP
                      have hD : va_D A (WM h g ca (u2 iv 12 19 v529) (u2 (u2 lv 12 17 w526) 12 18 w528) fa la) := hD
                      obtain ⟨v530, ev530⟩ : ∃ y : Int32, y = x507_4 + 1 := ⟨_, rfl⟩
                      have tv530 := z_add ev530 rfl (by decide : (1 : Int32).toInt = 1) (by omega) (by omega)
                      refine lv_iinc (v := v530) (lv' := [(4, .int v530), (5, .int 0), (0, .ref h), (1, .int a), (2, .int b), (3, .int d)]) hx hb dX12_sumUp_152 hl (k := 1) rfl (by rw [ev530]; rfl) (by decide) rfl (fun ls hl => ?_)
                      refine lv_goto (tgt := 18) hx hb dX12_sumUp_155 (by decide) ?_
                      exact ih508 v530 v529 w526 w528 ⟨by omega, by omega⟩ (show 0 ≤ (w528 : Int64).toInt from by omega) (show (w528 : Int64).toInt ≤ 9999 * (v530 : Int32).toInt from by omega) (show 100 * (v529 : Int32).toInt ≤ (w528 : Int64).toInt from by omega) (show 0 ≤ (v529 : Int32).toInt from by omega) (show (v529 : Int32).toInt ≤ (v530 : Int32).toInt from by omega) (show (w526 : Int64).toInt = (smL (fun s : Nat => ((fa 12 4) s).toInt = (a).toInt ∧ ((fa 12 5) s).toInt = (b).toInt ∧ ((fa 12 11) s).toInt ≤ (d).toInt ∧ (((fa 12 12) s).toInt < 0 ∨ (d).toInt < ((fa 12 12) s).toInt)) (fa 12 8) ((v530 : Int32).toInt).toNat).toInt from (by
                            have := congrArg Int32.toInt (show v510 = fa 12 9 ((x507_4 : Int32).toInt).toNat from ev510)
                            have := congrArg Int32.toInt (show v512 = fa 12 10 ((x507_4 : Int32).toInt).toNat from ev512)
                            have := congrArg Int32.toInt (show v515 = fa 12 4 ((x507_4 : Int32).toInt).toNat from ev515)
                            have := congrArg Int32.toInt (show v518 = fa 12 5 ((x507_4 : Int32).toInt).toNat from ev518)
                            have y9 : ((r521 : Int32).toInt = 1 ∧ (fa 12 11 ((x507_4 : Int32).toInt).toNat).toInt ≤ (d : Int32).toInt ∧ ((fa 12 12 ((x507_4 : Int32).toInt).toNat).toInt < 0 ∨ (d : Int32).toInt < (fa 12 12 ((x507_4 : Int32).toInt).toNat).toInt)) ∨ ((r521 : Int32).toInt = 0 ∧ ¬ ((fa 12 11 ((x507_4 : Int32).toInt).toNat).toInt ≤ (d : Int32).toInt ∧ ((fa 12 12 ((x507_4 : Int32).toInt).toNat).toInt < 0 ∨ (d : Int32).toInt < (fa 12 12 ((x507_4 : Int32).toInt).toNat).toInt))) := xr521_0
                            have hs9 : ((v530 : Int32).toInt).toNat = ((x507_4 : Int32).toInt).toNat + 1 := by omega
                            have hc : (fa 12 4 ((x507_4 : Int32).toInt).toNat).toInt = a.toInt ∧ (fa 12 5 ((x507_4 : Int32).toInt).toNat).toInt = b.toInt ∧ (fa 12 11 ((x507_4 : Int32).toInt).toNat).toInt ≤ d.toInt ∧ ((fa 12 12 ((x507_4 : Int32).toInt).toNat).toInt < 0 ∨ d.toInt < (fa 12 12 ((x507_4 : Int32).toInt).toNat).toInt) := ⟨by omega, by omega, by omega, by omega⟩
                            have h1 : w507_l_12_17 = smL _ _ _ := Int64.toInt_inj.mp hq508_5
                            rw [smL_y hs9 hc, ← h1, ew526, ev525]; rfl)) (show (w528 : Int64).toInt = (smL (fun s : Nat => ((fa 12 4) s).toInt = (a).toInt ∧ ((fa 12 5) s).toInt = (b).toInt ∧ ((fa 12 11) s).toInt ≤ (d).toInt ∧ (((fa 12 12) s).toInt < 0 ∨ (d).toInt < ((fa 12 12) s).toInt)) (fa 12 7) ((v530 : Int32).toInt).toNat).toInt from (by
                            have := congrArg Int32.toInt (show v510 = fa 12 9 ((x507_4 : Int32).toInt).toNat from ev510)
                            have := congrArg Int32.toInt (show v512 = fa 12 10 ((x507_4 : Int32).toInt).toNat from ev512)
                            have := congrArg Int32.toInt (show v515 = fa 12 4 ((x507_4 : Int32).toInt).toNat from ev515)
                            have := congrArg Int32.toInt (show v518 = fa 12 5 ((x507_4 : Int32).toInt).toNat from ev518)
                            have y9 : ((r521 : Int32).toInt = 1 ∧ (fa 12 11 ((x507_4 : Int32).toInt).toNat).toInt ≤ (d : Int32).toInt ∧ ((fa 12 12 ((x507_4 : Int32).toInt).toNat).toInt < 0 ∨ (d : Int32).toInt < (fa 12 12 ((x507_4 : Int32).toInt).toNat).toInt)) ∨ ((r521 : Int32).toInt = 0 ∧ ¬ ((fa 12 11 ((x507_4 : Int32).toInt).toNat).toInt ≤ (d : Int32).toInt ∧ ((fa 12 12 ((x507_4 : Int32).toInt).toNat).toInt < 0 ∨ (d : Int32).toInt < (fa 12 12 ((x507_4 : Int32).toInt).toNat).toInt))) := xr521_0
                            have hs9 : ((v530 : Int32).toInt).toNat = ((x507_4 : Int32).toInt).toNat + 1 := by omega
                            have hc : (fa 12 4 ((x507_4 : Int32).toInt).toNat).toInt = a.toInt ∧ (fa 12 5 ((x507_4 : Int32).toInt).toNat).toInt = b.toInt ∧ (fa 12 11 ((x507_4 : Int32).toInt).toNat).toInt ≤ d.toInt ∧ ((fa 12 12 ((x507_4 : Int32).toInt).toNat).toInt < 0 ∨ d.toInt < (fa 12 12 ((x507_4 : Int32).toInt).toNat).toInt) := ⟨by omega, by omega, by omega, by omega⟩
                            have h1 : w507_l_12_18 = smL _ _ _ := Int64.toInt_inj.mp hq508_6
                            rw [smL_y hs9 hc, ← h1, ew528, ev527]; rfl)) (show (v529 : Int32).toInt = (smC (fun s : Nat => ((fa 12 4) s).toInt = (a).toInt ∧ ((fa 12 5) s).toInt = (b).toInt ∧ ((fa 12 11) s).toInt ≤ (d).toInt ∧ (((fa 12 12) s).toInt < 0 ∨ (d).toInt < ((fa 12 12) s).toInt)) ((v530 : Int32).toInt).toNat).toInt from (by
                            have := congrArg Int32.toInt (show v510 = fa 12 9 ((x507_4 : Int32).toInt).toNat from ev510)
                            have := congrArg Int32.toInt (show v512 = fa 12 10 ((x507_4 : Int32).toInt).toNat from ev512)
                            have := congrArg Int32.toInt (show v515 = fa 12 4 ((x507_4 : Int32).toInt).toNat from ev515)
                            have := congrArg Int32.toInt (show v518 = fa 12 5 ((x507_4 : Int32).toInt).toNat from ev518)
                            have y9 : ((r521 : Int32).toInt = 1 ∧ (fa 12 11 ((x507_4 : Int32).toInt).toNat).toInt ≤ (d : Int32).toInt ∧ ((fa 12 12 ((x507_4 : Int32).toInt).toNat).toInt < 0 ∨ (d : Int32).toInt < (fa 12 12 ((x507_4 : Int32).toInt).toNat).toInt)) ∨ ((r521 : Int32).toInt = 0 ∧ ¬ ((fa 12 11 ((x507_4 : Int32).toInt).toNat).toInt ≤ (d : Int32).toInt ∧ ((fa 12 12 ((x507_4 : Int32).toInt).toNat).toInt < 0 ∨ (d : Int32).toInt < (fa 12 12 ((x507_4 : Int32).toInt).toNat).toInt))) := xr521_0
                            have hs9 : ((v530 : Int32).toInt).toNat = ((x507_4 : Int32).toInt).toNat + 1 := by omega
                            have hc : (fa 12 4 ((x507_4 : Int32).toInt).toNat).toInt = a.toInt ∧ (fa 12 5 ((x507_4 : Int32).toInt).toNat).toInt = b.toInt ∧ (fa 12 11 ((x507_4 : Int32).toInt).toNat).toInt ≤ d.toInt ∧ ((fa 12 12 ((x507_4 : Int32).toInt).toNat).toInt < 0 ∨ d.toInt < (fa 12 12 ((x507_4 : Int32).toInt).toNat).toInt) := ⟨by omega, by omega, by omega, by omega⟩
                            have h1 : w507_i_12_19 = smC _ _ := Int32.toInt_inj.mp hq508_7
                            rw [smC_y hs9 hc, ← h1, ev529])) (show (v530 : Int32).toInt ≤ ((iv 12 3) : Int32).toInt from by omega) (by omega) _ _ ls hP hD hS (lv_sub hl [0, 2, 3, 4, 5] rfl)
            · have fc514 := z_eq (rfl : (x507_4).toInt = _) (rfl : ((iv 12 22)).toInt = _) c514; exfalso; omega
  have : (0 : Int32).toInt = 0 := (by decide)
  have : (0 : Int64).toInt = 0 := (by decide)
  have i_12_3 : 0 ≤ (iv 12 3).toInt ∧ (iv 12 3).toInt ≤ 60 := hI.1 12 3
  exact lp508 61 0 0 0 0 ⟨by decide, by decide⟩ (show 0 ≤ (0 : Int64).toInt from by omega) (show (0 : Int64).toInt ≤ 9999 * (0 : Int32).toInt from by omega) (show 100 * (0 : Int32).toInt ≤ (0 : Int64).toInt from by omega) (show 0 ≤ (0 : Int32).toInt from by omega) (show (0 : Int32).toInt ≤ (0 : Int32).toInt from by omega) (show (0 : Int64).toInt = (smL (fun s : Nat => ((fa 12 4) s).toInt = (a).toInt ∧ ((fa 12 5) s).toInt = (b).toInt ∧ ((fa 12 11) s).toInt ≤ (d).toInt ∧ (((fa 12 12) s).toInt < 0 ∨ (d).toInt < ((fa 12 12) s).toInt)) (fa 12 8) ((0 : Int32).toInt).toNat).toInt from (by have hz : ((0 : Int32).toInt).toNat = 0 := (by decide); rw [hz]; exact (by decide : (0 : Int64).toInt = 0))) (show (0 : Int64).toInt = (smL (fun s : Nat => ((fa 12 4) s).toInt = (a).toInt ∧ ((fa 12 5) s).toInt = (b).toInt ∧ ((fa 12 11) s).toInt ≤ (d).toInt ∧ (((fa 12 12) s).toInt < 0 ∨ (d).toInt < ((fa 12 12) s).toInt)) (fa 12 7) ((0 : Int32).toInt).toNat).toInt from (by have hz : ((0 : Int32).toInt).toNat = 0 := (by decide); rw [hz]; exact (by decide : (0 : Int64).toInt = 0))) (show (0 : Int32).toInt = (smC (fun s : Nat => ((fa 12 4) s).toInt = (a).toInt ∧ ((fa 12 5) s).toInt = (b).toInt ∧ ((fa 12 11) s).toInt ≤ (d).toInt ∧ (((fa 12 12) s).toInt < 0 ∨ (d).toInt < ((fa 12 12) s).toInt)) ((0 : Int32).toInt).toNat).toInt from (by have hz : ((0 : Int32).toInt).toNat = 0 := (by decide); rw [hz]; exact (by decide : (0 : Int32).toInt = 0))) (show (0 : Int32).toInt ≤ ((iv 12 3) : Int32).toInt from by omega) (by first | decide | omega) _ _ ls hP hD hS (lv_sub hl [0, 1, 2, 3, 4] rfl)
