/-! ===== ca1 ===== -/
set_option maxHeartbeats 4000000 in
set_option maxRecDepth 100000 in
/-- X10_get -/
theorem c_X10_get_x5 (l : Launch) (dC : Nat → ClassId) (dI : Nat → Nat → Nat) (h : Nat) (g : Nat → Nat → Nat) (ca : Nat → Nat → ClassId) (iv : Nat → Nat → Int32) (lv : Nat → Nat → Int64) (fa : Nat → Nat → Nat → Int32) (la : Nat → Nat → Nat → Int64) (hI : IX iv fa) (a : Int32) (h_a : 0 ≤ a.toInt ∧ a.toInt ≤ 59) : Met l yX10_get (wc yX10_get cX10_get 3 (some .int)) ({ frames := 0, cells := 0, slots := 0, locals := 0 } : Room) (pR (dC, dI) classes (WX h g ca iv lv fa la) (TX ca) [.ref (g 11 0), .int a, .int 5]) (vp_Si (fun r => (True) ∧ (r.toInt = ((fa 10 0) (9 * (a.toInt).toNat + 5)).toInt))) 0 0 (fun _ => False) := by
  refine Met.ofW (cc := cX10_get) (maxL := 3) (ret := (some .int)) (by decide) rfl ?_
  intro p e s m args below meth c s₁ B hml hv
  obtain ⟨rfl, hP, hK⟩ := hv
  have hx := B.exec
  have hb := B.bytes
  have hr := B.returns
  have ht := tb_tl (atoms_spec (ws := wc yX10_get cX10_get 3 (some .int)) B.pre)
  have hown : s.vm.findClass RX10 = some m.cls := findClass_of_methodNamed B.named
  have hlocks := B.notSynchronized
  have hl := lv_entry [.ref (g 11 0), .int a, .int 5] (n := 3) (Nat.le_of_ble_eq_true rfl)
  rw [lg_entry_eq]
  generalize (lg_sl [.ref (g 11 0), .int a, .int 5] ++ List.replicate (3 - (lg_sl [.ref (g 11 0), .int a, .int 5]).length) Slot.unset).toArray = ls at hl ⊢
  have hl : lv_has ls 3 [(0, .ref (g 11 0)), (1, .int a), (2, .int 5)] := hl
  refine lv_aload_n hx hb dX10_get_0 rfl (lv_at hl 0 rfl) ?_
  refine gX_10_0 hx hb ht hown hK hP m_111 dX10_get_1 ?_
  refine lv_iload_n hx hb dX10_get_4 rfl (lv_at hl 1 rfl) ?_
  refine lv_bipush (v := 9) hx hb dX10_get_5 (by decide) ?_
  refine lv_imul hx hb dX10_get_7 ?_
  refine lv_topi (fun v1 ev1 => ?_)
  have tv1 := z_mul ev1 (rfl : (a).toInt = _) (by decide : (9 : Int32).toInt = 9) (by omega) (by omega)
  refine lv_iload_n hx hb dX10_get_8 rfl (lv_at hl 2 rfl) ?_
  refine lv_iadd hx hb dX10_get_9 ?_
  refine lv_topi (fun v2 ev2 => ?_)
  have tv2 := z_add ev2 (rfl : (v1).toInt = _) (by decide : (5 : Int32).toInt = 5) (by omega) (by omega)
  refine lX_10_0 hx hb hK hP (f := (fa 10 0)) rfl (vp_in_iff.mpr ⟨by omega, by omega⟩) dX10_get_10 ?_
  refine lv_topi (fun v3 ev3 => ?_)
  exact W.iret (v := v3) hx hb hr (fun t ht9 hW => ⟨v3, rfl, ⟨trivial, (show (v3 : Int32).toInt = ((fa 10 0) (9 * ((a).toInt).toNat + 5)).toInt from (by have h1 := congrArg Int32.toInt ev3; have h2 : (v2 : Int32).toNatClampNeg = 9 * (a.toInt).toNat + 5 := (by show (v2 : Int32).toInt.toNat = _; omega); rw [h2] at h1; exact h1))⟩, ht9⟩) (fun q hq => by cases hq) dX10_get_11
set_option maxHeartbeats 4000000 in
set_option maxRecDepth 100000 in
/-- X10_get -/
theorem c_X10_get_x6 (l : Launch) (dC : Nat → ClassId) (dI : Nat → Nat → Nat) (h : Nat) (g : Nat → Nat → Nat) (ca : Nat → Nat → ClassId) (iv : Nat → Nat → Int32) (lv : Nat → Nat → Int64) (fa : Nat → Nat → Nat → Int32) (la : Nat → Nat → Nat → Int64) (hI : IX iv fa) (a : Int32) (h_a : 0 ≤ a.toInt ∧ a.toInt ≤ 59) : Met l yX10_get (wc yX10_get cX10_get 3 (some .int)) ({ frames := 0, cells := 0, slots := 0, locals := 0 } : Room) (pR (dC, dI) classes (WX h g ca iv lv fa la) (TX ca) [.ref (g 11 0), .int a, .int 6]) (vp_Si (fun r => (True) ∧ (r.toInt = ((fa 10 0) (9 * (a.toInt).toNat + 6)).toInt))) 0 0 (fun _ => False) := by
  refine Met.ofW (cc := cX10_get) (maxL := 3) (ret := (some .int)) (by decide) rfl ?_
  intro p e s m args below meth c s₁ B hml hv
  obtain ⟨rfl, hP, hK⟩ := hv
  have hx := B.exec
  have hb := B.bytes
  have hr := B.returns
  have ht := tb_tl (atoms_spec (ws := wc yX10_get cX10_get 3 (some .int)) B.pre)
  have hown : s.vm.findClass RX10 = some m.cls := findClass_of_methodNamed B.named
  have hlocks := B.notSynchronized
  have hl := lv_entry [.ref (g 11 0), .int a, .int 6] (n := 3) (Nat.le_of_ble_eq_true rfl)
  rw [lg_entry_eq]
  generalize (lg_sl [.ref (g 11 0), .int a, .int 6] ++ List.replicate (3 - (lg_sl [.ref (g 11 0), .int a, .int 6]).length) Slot.unset).toArray = ls at hl ⊢
  have hl : lv_has ls 3 [(0, .ref (g 11 0)), (1, .int a), (2, .int 6)] := hl
  refine lv_aload_n hx hb dX10_get_0 rfl (lv_at hl 0 rfl) ?_
  refine gX_10_0 hx hb ht hown hK hP m_111 dX10_get_1 ?_
  refine lv_iload_n hx hb dX10_get_4 rfl (lv_at hl 1 rfl) ?_
  refine lv_bipush (v := 9) hx hb dX10_get_5 (by decide) ?_
  refine lv_imul hx hb dX10_get_7 ?_
  refine lv_topi (fun v1 ev1 => ?_)
  have tv1 := z_mul ev1 (rfl : (a).toInt = _) (by decide : (9 : Int32).toInt = 9) (by omega) (by omega)
  refine lv_iload_n hx hb dX10_get_8 rfl (lv_at hl 2 rfl) ?_
  refine lv_iadd hx hb dX10_get_9 ?_
  refine lv_topi (fun v2 ev2 => ?_)
  have tv2 := z_add ev2 (rfl : (v1).toInt = _) (by decide : (6 : Int32).toInt = 6) (by omega) (by omega)
  refine lX_10_0 hx hb hK hP (f := (fa 10 0)) rfl (vp_in_iff.mpr ⟨by omega, by omega⟩) dX10_get_10 ?_
  refine lv_topi (fun v3 ev3 => ?_)
  exact W.iret (v := v3) hx hb hr (fun t ht9 hW => ⟨v3, rfl, ⟨trivial, (show (v3 : Int32).toInt = ((fa 10 0) (9 * ((a).toInt).toNat + 6)).toInt from (by have h1 := congrArg Int32.toInt ev3; have h2 : (v2 : Int32).toNatClampNeg = 9 * (a.toInt).toNat + 6 := (by show (v2 : Int32).toInt.toNat = _; omega); rw [h2] at h1; exact h1))⟩, ht9⟩) (fun q hq => by cases hq) dX10_get_11
set_option maxHeartbeats 4000000 in
set_option maxRecDepth 100000 in
/-- X2_isInDoubt -/
theorem c_X2_isInDoubt_w (l : Launch) (dC : Nat → ClassId) (dI : Nat → Nat → Nat) (h : Nat) (g : Nat → Nat → Nat) (ca : Nat → Nat → ClassId) (iv : Nat → Nat → Int32) (lv : Nat → Nat → Int64) (fa : Nat → Nat → Nat → Int32) (la : Nat → Nat → Nat → Int64) (hI : IX iv fa) (a : Int32) (h_a : 0 ≤ a.toInt ∧ a.toInt ≤ 59) : Met l yX2_isInDoubt (wc yX2_isInDoubt cX2_isInDoubt 2 (some .boolean)) ({ frames := 2, cells := 0, slots := 0, locals := 45 } : Room) (pR (dC, dI) classes (WX h g ca iv lv fa la) (TX ca) [.ref (g 11 6), .int a]) (vp_Si (fun r => (0 ≤ r.toInt ∧ r.toInt ≤ 1) ∧ (((r.toInt = 1 ∧ ((((fa 10 0) (9 * (a.toInt).toNat + 0)).toInt = (iv 2 3).toInt ∧ ((fa 10 0) (9 * (a.toInt).toNat + 1)).toInt = 0 ∧ ((fa 10 0) (9 * (a.toInt).toNat + 7)).toInt ≤ (iv 2 4).toInt ∧ (((fa 10 0) (9 * (a.toInt).toNat + 8)).toInt = -1 ∨ (iv 2 4).toInt < ((fa 10 0) (9 * (a.toInt).toNat + 8)).toInt)) ∨ (((fa 10 0) (9 * (a.toInt).toNat + 0)).toInt = (iv 2 3).toInt ∧ ((fa 10 0) (9 * (a.toInt).toNat + 1)).toInt = 1 ∧ ((fa 10 0) (9 * (a.toInt).toNat + 7)).toInt ≤ (iv 2 4).toInt ∧ (((fa 10 0) (9 * (a.toInt).toNat + 8)).toInt = -1 ∨ (iv 2 4).toInt < ((fa 10 0) (9 * (a.toInt).toNat + 8)).toInt)))) ∨ (r.toInt = 0 ∧ ¬ ((((fa 10 0) (9 * (a.toInt).toNat + 0)).toInt = (iv 2 3).toInt ∧ ((fa 10 0) (9 * (a.toInt).toNat + 1)).toInt = 0 ∧ ((fa 10 0) (9 * (a.toInt).toNat + 7)).toInt ≤ (iv 2 4).toInt ∧ (((fa 10 0) (9 * (a.toInt).toNat + 8)).toInt = -1 ∨ (iv 2 4).toInt < ((fa 10 0) (9 * (a.toInt).toNat + 8)).toInt)) ∨ (((fa 10 0) (9 * (a.toInt).toNat + 0)).toInt = (iv 2 3).toInt ∧ ((fa 10 0) (9 * (a.toInt).toNat + 1)).toInt = 1 ∧ ((fa 10 0) (9 * (a.toInt).toNat + 7)).toInt ≤ (iv 2 4).toInt ∧ (((fa 10 0) (9 * (a.toInt).toNat + 8)).toInt = -1 ∨ (iv 2 4).toInt < ((fa 10 0) (9 * (a.toInt).toNat + 8)).toInt)))))))) 0 0 (fun _ => False) := by
  refine Met.ofW (cc := cX2_isInDoubt) (maxL := 2) (ret := (some .boolean)) (by decide) rfl ?_
  intro p e s m args below meth c s₁ B hml hv
  obtain ⟨rfl, hP, hK⟩ := hv
  have hx := B.exec
  have hb := B.bytes
  have hr := B.returns
  have ht := tb_tl (atoms_spec (ws := wc yX2_isInDoubt cX2_isInDoubt 2 (some .boolean)) B.pre)
  have hown : s.vm.findClass RX2 = some m.cls := findClass_of_methodNamed B.named
  have hlocks := B.notSynchronized
  have hl := lv_entry [.ref (g 11 6), .int a] (n := 2) (Nat.le_of_ble_eq_true rfl)
  rw [lg_entry_eq]
  generalize (lg_sl [.ref (g 11 6), .int a] ++ List.replicate (2 - (lg_sl [.ref (g 11 6), .int a]).length) Slot.unset).toArray = ls at hl ⊢
  have hl : lv_has ls 2 [(0, .ref (g 11 6)), (1, .int a)] := hl
  refine lv_aload_n hx hb dX2_isInDoubt_0 rfl (lv_at hl 0 rfl) ?_
  refine gX_2_0 hx hb ht hown hK hP m_304 dX2_isInDoubt_1 ?_
  refine lv_iload_n hx hb dX2_isInDoubt_4 rfl (lv_at hl 1 rfl) ?_
  refine lv_aload_n hx hb dX2_isInDoubt_5 rfl (lv_at hl 0 rfl) ?_
  refine gX_2_3 hx hb ht hown hK hP m_307 (v := (iv 2 3)) rfl dX2_isInDoubt_6 ?_
  refine lv_iconst (v := 0) hx hb dX2_isInDoubt_9 (by decide) ?_
  refine vp_callSi (W.runV (As := [.int a, .int (iv 2 3), .int 0]) (rest := []) ⟨hx, hb, hml, hown, ht⟩ (c_X10_isOf_x l dC dI h g ca iv lv fa la hI a (iv 2 3) 0 ⟨by omega, by omega⟩) (kV 3 ht m_887 m_482 m_483 m_78 m_484 rfl rfl hd_X10_isOf_v ⟨Nat.le_of_ble_eq_true rfl, Nat.le_of_ble_eq_true rfl⟩) (vR hP hK (rX_10 hK hP)) rfl rfl hl.1 rfl (lv_room (Nat.le_of_ble_eq_true rfl)) dX2_isInDoubt_10 ⟨Nat.le_of_ble_eq_true rfl, Nat.le_of_ble_eq_true rfl⟩) (fun r1 hr1 => ?_)
  obtain ⟨hr1, xr1_0⟩ := hr1
  have : (0 : Int32).toInt = 0 := (by decide)
  have xr1_0 : (((r1 : Int32).toInt = 1 ∧ ((fa 10 0) (9 * ((a : Int32).toInt).toNat + 0)).toInt = ((iv 2 3) : Int32).toInt ∧ ((fa 10 0) (9 * ((a : Int32).toInt).toNat + 1)).toInt = (0 : Int32).toInt) ∨ ((r1 : Int32).toInt = 0 ∧ ¬ (((fa 10 0) (9 * ((a : Int32).toInt).toNat + 0)).toInt = ((iv 2 3) : Int32).toInt ∧ ((fa 10 0) (9 * ((a : Int32).toInt).toNat + 1)).toInt = (0 : Int32).toInt))) := xr1_0
  refine lv_if_ne (tgt := 32) hx hb dX2_isInDoubt_13 (by decide) (fun c2 => ?_) (fun c2 => ?_)
  · have fc2 := z_ne (rfl : (r1).toInt = _) (by decide : (0 : Int32).toInt = 0) c2
    refine lv_aload_n hx hb dX2_isInDoubt_32 rfl (lv_at hl 0 rfl) ?_
    refine gX_2_0 hx hb ht hown hK hP m_304 dX2_isInDoubt_33 ?_
    refine lv_iload_n hx hb dX2_isInDoubt_36 rfl (lv_at hl 1 rfl) ?_
    refine lv_aload_n hx hb dX2_isInDoubt_37 rfl (lv_at hl 0 rfl) ?_
    refine gX_2_4 hx hb ht hown hK hP m_308 (v := (iv 2 4)) rfl dX2_isInDoubt_38 ?_
    refine vp_callSi (W.runV (As := [.int a, .int (iv 2 4)]) (rest := []) ⟨hx, hb, hml, hown, ht⟩ (c_X10_counts_x l dC dI h g ca iv lv fa la hI a (iv 2 4) ⟨by omega, by omega⟩) (kV 2 ht m_888 m_574 m_575 m_78 m_576 rfl rfl hd_X10_counts_v ⟨Nat.le_of_ble_eq_true rfl, Nat.le_of_ble_eq_true rfl⟩) (vR hP hK (rX_10 hK hP)) rfl rfl hl.1 rfl (lv_room (Nat.le_of_ble_eq_true rfl)) dX2_isInDoubt_41 ⟨Nat.le_of_ble_eq_true rfl, Nat.le_of_ble_eq_true rfl⟩) (fun r3 hr3 => ?_)
    obtain ⟨hr3, xr3_0⟩ := hr3
    have xr3_0 : (((r3 : Int32).toInt = 1 ∧ ((fa 10 0) (9 * ((a : Int32).toInt).toNat + 7)).toInt ≤ ((iv 2 4) : Int32).toInt ∧ (((fa 10 0) (9 * ((a : Int32).toInt).toNat + 8)).toInt = -1 ∨ ((iv 2 4) : Int32).toInt < ((fa 10 0) (9 * ((a : Int32).toInt).toNat + 8)).toInt)) ∨ ((r3 : Int32).toInt = 0 ∧ ¬ (((fa 10 0) (9 * ((a : Int32).toInt).toNat + 7)).toInt ≤ ((iv 2 4) : Int32).toInt ∧ (((fa 10 0) (9 * ((a : Int32).toInt).toNat + 8)).toInt = -1 ∨ ((iv 2 4) : Int32).toInt < ((fa 10 0) (9 * ((a : Int32).toInt).toNat + 8)).toInt)))) := xr3_0
    refine lv_if_eq (tgt := 51) hx hb dX2_isInDoubt_44 (by decide) (fun c4 => ?_) (fun c4 => ?_)
    · have fc4 := z_eq (rfl : (r3).toInt = _) (by decide : (0 : Int32).toInt = 0) c4
      refine lv_iconst (v := 0) hx hb dX2_isInDoubt_51 (by decide) ?_
      exact W.zret (v := 0) hx hb hr rfl (fun t ht9 hW => ⟨0, rfl, ⟨⟨by decide, by decide⟩, (show (((0 : Int32).toInt = 1 ∧ ((((fa 10 0) (9 * ((a).toInt).toNat + 0)).toInt = (iv 2 3).toInt ∧ ((fa 10 0) (9 * ((a).toInt).toNat + 1)).toInt = 0 ∧ ((fa 10 0) (9 * ((a).toInt).toNat + 7)).toInt ≤ (iv 2 4).toInt ∧ (((fa 10 0) (9 * ((a).toInt).toNat + 8)).toInt = -1 ∨ (iv 2 4).toInt < ((fa 10 0) (9 * ((a).toInt).toNat + 8)).toInt)) ∨ (((fa 10 0) (9 * ((a).toInt).toNat + 0)).toInt = (iv 2 3).toInt ∧ ((fa 10 0) (9 * ((a).toInt).toNat + 1)).toInt = 1 ∧ ((fa 10 0) (9 * ((a).toInt).toNat + 7)).toInt ≤ (iv 2 4).toInt ∧ (((fa 10 0) (9 * ((a).toInt).toNat + 8)).toInt = -1 ∨ (iv 2 4).toInt < ((fa 10 0) (9 * ((a).toInt).toNat + 8)).toInt)))) ∨ ((0 : Int32).toInt = 0 ∧ ¬ ((((fa 10 0) (9 * ((a).toInt).toNat + 0)).toInt = (iv 2 3).toInt ∧ ((fa 10 0) (9 * ((a).toInt).toNat + 1)).toInt = 0 ∧ ((fa 10 0) (9 * ((a).toInt).toNat + 7)).toInt ≤ (iv 2 4).toInt ∧ (((fa 10 0) (9 * ((a).toInt).toNat + 8)).toInt = -1 ∨ (iv 2 4).toInt < ((fa 10 0) (9 * ((a).toInt).toNat + 8)).toInt)) ∨ (((fa 10 0) (9 * ((a).toInt).toNat + 0)).toInt = (iv 2 3).toInt ∧ ((fa 10 0) (9 * ((a).toInt).toNat + 1)).toInt = 1 ∧ ((fa 10 0) (9 * ((a).toInt).toNat + 7)).toInt ≤ (iv 2 4).toInt ∧ (((fa 10 0) (9 * ((a).toInt).toNat + 8)).toInt = -1 ∨ (iv 2 4).toInt < ((fa 10 0) (9 * ((a).toInt).toNat + 8)).toInt))))) from Or.inr ⟨by omega, by omega⟩)⟩, ht9⟩) (fun q hq => by cases hq) dX2_isInDoubt_52
    · have fc4 := z_ne (rfl : (r3).toInt = _) (by decide : (0 : Int32).toInt = 0) c4
      refine lv_iconst (v := 1) hx hb dX2_isInDoubt_47 (by decide) ?_
      refine lv_goto (tgt := 52) hx hb dX2_isInDoubt_48 (by decide) ?_
      have : (1 : Int32).toInt = 1 := (by decide)
      exact W.zret (v := 1) hx hb hr rfl (fun t ht9 hW => ⟨1, rfl, ⟨⟨by decide, by decide⟩, (show (((1 : Int32).toInt = 1 ∧ ((((fa 10 0) (9 * ((a).toInt).toNat + 0)).toInt = (iv 2 3).toInt ∧ ((fa 10 0) (9 * ((a).toInt).toNat + 1)).toInt = 0 ∧ ((fa 10 0) (9 * ((a).toInt).toNat + 7)).toInt ≤ (iv 2 4).toInt ∧ (((fa 10 0) (9 * ((a).toInt).toNat + 8)).toInt = -1 ∨ (iv 2 4).toInt < ((fa 10 0) (9 * ((a).toInt).toNat + 8)).toInt)) ∨ (((fa 10 0) (9 * ((a).toInt).toNat + 0)).toInt = (iv 2 3).toInt ∧ ((fa 10 0) (9 * ((a).toInt).toNat + 1)).toInt = 1 ∧ ((fa 10 0) (9 * ((a).toInt).toNat + 7)).toInt ≤ (iv 2 4).toInt ∧ (((fa 10 0) (9 * ((a).toInt).toNat + 8)).toInt = -1 ∨ (iv 2 4).toInt < ((fa 10 0) (9 * ((a).toInt).toNat + 8)).toInt)))) ∨ ((1 : Int32).toInt = 0 ∧ ¬ ((((fa 10 0) (9 * ((a).toInt).toNat + 0)).toInt = (iv 2 3).toInt ∧ ((fa 10 0) (9 * ((a).toInt).toNat + 1)).toInt = 0 ∧ ((fa 10 0) (9 * ((a).toInt).toNat + 7)).toInt ≤ (iv 2 4).toInt ∧ (((fa 10 0) (9 * ((a).toInt).toNat + 8)).toInt = -1 ∨ (iv 2 4).toInt < ((fa 10 0) (9 * ((a).toInt).toNat + 8)).toInt)) ∨ (((fa 10 0) (9 * ((a).toInt).toNat + 0)).toInt = (iv 2 3).toInt ∧ ((fa 10 0) (9 * ((a).toInt).toNat + 1)).toInt = 1 ∧ ((fa 10 0) (9 * ((a).toInt).toNat + 7)).toInt ≤ (iv 2 4).toInt ∧ (((fa 10 0) (9 * ((a).toInt).toNat + 8)).toInt = -1 ∨ (iv 2 4).toInt < ((fa 10 0) (9 * ((a).toInt).toNat + 8)).toInt))))) from Or.inl ⟨by omega, by omega⟩)⟩, ht9⟩) (fun q hq => by cases hq) dX2_isInDoubt_52
  · have fc2 := z_eq (rfl : (r1).toInt = _) (by decide : (0 : Int32).toInt = 0) c2
    refine lv_aload_n hx hb dX2_isInDoubt_16 rfl (lv_at hl 0 rfl) ?_
    refine gX_2_0 hx hb ht hown hK hP m_304 dX2_isInDoubt_17 ?_
    refine lv_iload_n hx hb dX2_isInDoubt_20 rfl (lv_at hl 1 rfl) ?_
    refine lv_aload_n hx hb dX2_isInDoubt_21 rfl (lv_at hl 0 rfl) ?_
    refine gX_2_3 hx hb ht hown hK hP m_307 (v := (iv 2 3)) rfl dX2_isInDoubt_22 ?_
    refine lv_iconst (v := 1) hx hb dX2_isInDoubt_25 (by decide) ?_
    refine vp_callSi (W.runV (As := [.int a, .int (iv 2 3), .int 1]) (rest := []) ⟨hx, hb, hml, hown, ht⟩ (c_X10_isOf_x l dC dI h g ca iv lv fa la hI a (iv 2 3) 1 ⟨by omega, by omega⟩) (kV 3 ht m_887 m_482 m_483 m_78 m_484 rfl rfl hd_X10_isOf_v ⟨Nat.le_of_ble_eq_true rfl, Nat.le_of_ble_eq_true rfl⟩) (vR hP hK (rX_10 hK hP)) rfl rfl hl.1 rfl (lv_room (Nat.le_of_ble_eq_true rfl)) dX2_isInDoubt_26 ⟨Nat.le_of_ble_eq_true rfl, Nat.le_of_ble_eq_true rfl⟩) (fun r5 hr5 => ?_)
    obtain ⟨hr5, xr5_0⟩ := hr5
    have : (1 : Int32).toInt = 1 := (by decide)
    have xr5_0 : (((r5 : Int32).toInt = 1 ∧ ((fa 10 0) (9 * ((a : Int32).toInt).toNat + 0)).toInt = ((iv 2 3) : Int32).toInt ∧ ((fa 10 0) (9 * ((a : Int32).toInt).toNat + 1)).toInt = (1 : Int32).toInt) ∨ ((r5 : Int32).toInt = 0 ∧ ¬ (((fa 10 0) (9 * ((a : Int32).toInt).toNat + 0)).toInt = ((iv 2 3) : Int32).toInt ∧ ((fa 10 0) (9 * ((a : Int32).toInt).toNat + 1)).toInt = (1 : Int32).toInt))) := xr5_0
    refine lv_if_eq (tgt := 51) hx hb dX2_isInDoubt_29 (by decide) (fun c6 => ?_) (fun c6 => ?_)
    · have fc6 := z_eq (rfl : (r5).toInt = _) (by decide : (0 : Int32).toInt = 0) c6
      refine lv_iconst (v := 0) hx hb dX2_isInDoubt_51 (by decide) ?_
      exact W.zret (v := 0) hx hb hr rfl (fun t ht9 hW => ⟨0, rfl, ⟨⟨by decide, by decide⟩, (show (((0 : Int32).toInt = 1 ∧ ((((fa 10 0) (9 * ((a).toInt).toNat + 0)).toInt = (iv 2 3).toInt ∧ ((fa 10 0) (9 * ((a).toInt).toNat + 1)).toInt = 0 ∧ ((fa 10 0) (9 * ((a).toInt).toNat + 7)).toInt ≤ (iv 2 4).toInt ∧ (((fa 10 0) (9 * ((a).toInt).toNat + 8)).toInt = -1 ∨ (iv 2 4).toInt < ((fa 10 0) (9 * ((a).toInt).toNat + 8)).toInt)) ∨ (((fa 10 0) (9 * ((a).toInt).toNat + 0)).toInt = (iv 2 3).toInt ∧ ((fa 10 0) (9 * ((a).toInt).toNat + 1)).toInt = 1 ∧ ((fa 10 0) (9 * ((a).toInt).toNat + 7)).toInt ≤ (iv 2 4).toInt ∧ (((fa 10 0) (9 * ((a).toInt).toNat + 8)).toInt = -1 ∨ (iv 2 4).toInt < ((fa 10 0) (9 * ((a).toInt).toNat + 8)).toInt)))) ∨ ((0 : Int32).toInt = 0 ∧ ¬ ((((fa 10 0) (9 * ((a).toInt).toNat + 0)).toInt = (iv 2 3).toInt ∧ ((fa 10 0) (9 * ((a).toInt).toNat + 1)).toInt = 0 ∧ ((fa 10 0) (9 * ((a).toInt).toNat + 7)).toInt ≤ (iv 2 4).toInt ∧ (((fa 10 0) (9 * ((a).toInt).toNat + 8)).toInt = -1 ∨ (iv 2 4).toInt < ((fa 10 0) (9 * ((a).toInt).toNat + 8)).toInt)) ∨ (((fa 10 0) (9 * ((a).toInt).toNat + 0)).toInt = (iv 2 3).toInt ∧ ((fa 10 0) (9 * ((a).toInt).toNat + 1)).toInt = 1 ∧ ((fa 10 0) (9 * ((a).toInt).toNat + 7)).toInt ≤ (iv 2 4).toInt ∧ (((fa 10 0) (9 * ((a).toInt).toNat + 8)).toInt = -1 ∨ (iv 2 4).toInt < ((fa 10 0) (9 * ((a).toInt).toNat + 8)).toInt))))) from Or.inr ⟨by omega, by omega⟩)⟩, ht9⟩) (fun q hq => by cases hq) dX2_isInDoubt_52
    · have fc6 := z_ne (rfl : (r5).toInt = _) (by decide : (0 : Int32).toInt = 0) c6
      refine lv_aload_n hx hb dX2_isInDoubt_32 rfl (lv_at hl 0 rfl) ?_
      refine gX_2_0 hx hb ht hown hK hP m_304 dX2_isInDoubt_33 ?_
      refine lv_iload_n hx hb dX2_isInDoubt_36 rfl (lv_at hl 1 rfl) ?_
      refine lv_aload_n hx hb dX2_isInDoubt_37 rfl (lv_at hl 0 rfl) ?_
      refine gX_2_4 hx hb ht hown hK hP m_308 (v := (iv 2 4)) rfl dX2_isInDoubt_38 ?_
      refine vp_callSi (W.runV (As := [.int a, .int (iv 2 4)]) (rest := []) ⟨hx, hb, hml, hown, ht⟩ (c_X10_counts_x l dC dI h g ca iv lv fa la hI a (iv 2 4) ⟨by omega, by omega⟩) (kV 2 ht m_888 m_574 m_575 m_78 m_576 rfl rfl hd_X10_counts_v ⟨Nat.le_of_ble_eq_true rfl, Nat.le_of_ble_eq_true rfl⟩) (vR hP hK (rX_10 hK hP)) rfl rfl hl.1 rfl (lv_room (Nat.le_of_ble_eq_true rfl)) dX2_isInDoubt_41 ⟨Nat.le_of_ble_eq_true rfl, Nat.le_of_ble_eq_true rfl⟩) (fun r7 hr7 => ?_)
      obtain ⟨hr7, xr7_0⟩ := hr7
      have xr7_0 : (((r7 : Int32).toInt = 1 ∧ ((fa 10 0) (9 * ((a : Int32).toInt).toNat + 7)).toInt ≤ ((iv 2 4) : Int32).toInt ∧ (((fa 10 0) (9 * ((a : Int32).toInt).toNat + 8)).toInt = -1 ∨ ((iv 2 4) : Int32).toInt < ((fa 10 0) (9 * ((a : Int32).toInt).toNat + 8)).toInt)) ∨ ((r7 : Int32).toInt = 0 ∧ ¬ (((fa 10 0) (9 * ((a : Int32).toInt).toNat + 7)).toInt ≤ ((iv 2 4) : Int32).toInt ∧ (((fa 10 0) (9 * ((a : Int32).toInt).toNat + 8)).toInt = -1 ∨ ((iv 2 4) : Int32).toInt < ((fa 10 0) (9 * ((a : Int32).toInt).toNat + 8)).toInt)))) := xr7_0
      refine lv_if_eq (tgt := 51) hx hb dX2_isInDoubt_44 (by decide) (fun c8 => ?_) (fun c8 => ?_)
      · have fc8 := z_eq (rfl : (r7).toInt = _) (by decide : (0 : Int32).toInt = 0) c8
        refine lv_iconst (v := 0) hx hb dX2_isInDoubt_51 (by decide) ?_
        exact W.zret (v := 0) hx hb hr rfl (fun t ht9 hW => ⟨0, rfl, ⟨⟨by decide, by decide⟩, (show (((0 : Int32).toInt = 1 ∧ ((((fa 10 0) (9 * ((a).toInt).toNat + 0)).toInt = (iv 2 3).toInt ∧ ((fa 10 0) (9 * ((a).toInt).toNat + 1)).toInt = 0 ∧ ((fa 10 0) (9 * ((a).toInt).toNat + 7)).toInt ≤ (iv 2 4).toInt ∧ (((fa 10 0) (9 * ((a).toInt).toNat + 8)).toInt = -1 ∨ (iv 2 4).toInt < ((fa 10 0) (9 * ((a).toInt).toNat + 8)).toInt)) ∨ (((fa 10 0) (9 * ((a).toInt).toNat + 0)).toInt = (iv 2 3).toInt ∧ ((fa 10 0) (9 * ((a).toInt).toNat + 1)).toInt = 1 ∧ ((fa 10 0) (9 * ((a).toInt).toNat + 7)).toInt ≤ (iv 2 4).toInt ∧ (((fa 10 0) (9 * ((a).toInt).toNat + 8)).toInt = -1 ∨ (iv 2 4).toInt < ((fa 10 0) (9 * ((a).toInt).toNat + 8)).toInt)))) ∨ ((0 : Int32).toInt = 0 ∧ ¬ ((((fa 10 0) (9 * ((a).toInt).toNat + 0)).toInt = (iv 2 3).toInt ∧ ((fa 10 0) (9 * ((a).toInt).toNat + 1)).toInt = 0 ∧ ((fa 10 0) (9 * ((a).toInt).toNat + 7)).toInt ≤ (iv 2 4).toInt ∧ (((fa 10 0) (9 * ((a).toInt).toNat + 8)).toInt = -1 ∨ (iv 2 4).toInt < ((fa 10 0) (9 * ((a).toInt).toNat + 8)).toInt)) ∨ (((fa 10 0) (9 * ((a).toInt).toNat + 0)).toInt = (iv 2 3).toInt ∧ ((fa 10 0) (9 * ((a).toInt).toNat + 1)).toInt = 1 ∧ ((fa 10 0) (9 * ((a).toInt).toNat + 7)).toInt ≤ (iv 2 4).toInt ∧ (((fa 10 0) (9 * ((a).toInt).toNat + 8)).toInt = -1 ∨ (iv 2 4).toInt < ((fa 10 0) (9 * ((a).toInt).toNat + 8)).toInt))))) from Or.inr ⟨by omega, by omega⟩)⟩, ht9⟩) (fun q hq => by cases hq) dX2_isInDoubt_52
      · have fc8 := z_ne (rfl : (r7).toInt = _) (by decide : (0 : Int32).toInt = 0) c8
        refine lv_iconst (v := 1) hx hb dX2_isInDoubt_47 (by decide) ?_
        refine lv_goto (tgt := 52) hx hb dX2_isInDoubt_48 (by decide) ?_
        exact W.zret (v := 1) hx hb hr rfl (fun t ht9 hW => ⟨1, rfl, ⟨⟨by decide, by decide⟩, (show (((1 : Int32).toInt = 1 ∧ ((((fa 10 0) (9 * ((a).toInt).toNat + 0)).toInt = (iv 2 3).toInt ∧ ((fa 10 0) (9 * ((a).toInt).toNat + 1)).toInt = 0 ∧ ((fa 10 0) (9 * ((a).toInt).toNat + 7)).toInt ≤ (iv 2 4).toInt ∧ (((fa 10 0) (9 * ((a).toInt).toNat + 8)).toInt = -1 ∨ (iv 2 4).toInt < ((fa 10 0) (9 * ((a).toInt).toNat + 8)).toInt)) ∨ (((fa 10 0) (9 * ((a).toInt).toNat + 0)).toInt = (iv 2 3).toInt ∧ ((fa 10 0) (9 * ((a).toInt).toNat + 1)).toInt = 1 ∧ ((fa 10 0) (9 * ((a).toInt).toNat + 7)).toInt ≤ (iv 2 4).toInt ∧ (((fa 10 0) (9 * ((a).toInt).toNat + 8)).toInt = -1 ∨ (iv 2 4).toInt < ((fa 10 0) (9 * ((a).toInt).toNat + 8)).toInt)))) ∨ ((1 : Int32).toInt = 0 ∧ ¬ ((((fa 10 0) (9 * ((a).toInt).toNat + 0)).toInt = (iv 2 3).toInt ∧ ((fa 10 0) (9 * ((a).toInt).toNat + 1)).toInt = 0 ∧ ((fa 10 0) (9 * ((a).toInt).toNat + 7)).toInt ≤ (iv 2 4).toInt ∧ (((fa 10 0) (9 * ((a).toInt).toNat + 8)).toInt = -1 ∨ (iv 2 4).toInt < ((fa 10 0) (9 * ((a).toInt).toNat + 8)).toInt)) ∨ (((fa 10 0) (9 * ((a).toInt).toNat + 0)).toInt = (iv 2 3).toInt ∧ ((fa 10 0) (9 * ((a).toInt).toNat + 1)).toInt = 1 ∧ ((fa 10 0) (9 * ((a).toInt).toNat + 7)).toInt ≤ (iv 2 4).toInt ∧ (((fa 10 0) (9 * ((a).toInt).toNat + 8)).toInt = -1 ∨ (iv 2 4).toInt < ((fa 10 0) (9 * ((a).toInt).toNat + 8)).toInt))))) from Or.inl ⟨by omega, by omega⟩)⟩, ht9⟩) (fun q hq => by cases hq) dX2_isInDoubt_52
