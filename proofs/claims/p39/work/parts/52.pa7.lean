/-! ===== pa7 ===== -/
set_option maxHeartbeats 4000000 in
set_option maxRecDepth 100000 in
/-- X12_add -/
theorem c_X12_add_w (l : Launch) (dC : Nat → ClassId) (dI : Nat → Nat → Nat) (sz : Nat) (h : Nat) (g : Nat → Nat → Nat) (ca : Nat → Nat → ClassId) (iv : Nat → Nat → Int32) (lv : Nat → Nat → Int64) (fa : Nat → Nat → Nat → Int32) (la : Nat → Nat → Nat → Int64) (hI : IX iv fa) (a : Int32) (b : Int32) (d : Int64) (k : Int32) (n : Int32) (q_12_67 : 0 ≤ (iv 12 67).toInt ∧ (iv 12 67).toInt ≤ 39) (h_k : (-1) ≤ k.toInt ∧ k.toInt ≤ 39) : Met l yX12_add (wc yX12_add cX12_add 7 none) ({ frames := 0, cells := 0, slots := 0, locals := 0 } : Room) (pW (dC, dI) classes (WM h g ca iv lv fa la) (TM ca) sz [.ref h, .int a, .int b, .long d, .int k, .int n]) (va_Qv (fun (u : SS) => ∃ (na_12_68 : Nat → Int32) (na_12_69 : Nat → Int32) (na_12_71 : Nat → Int32) (na_12_72 : Nat → Int32) (na_12_73 : Nat → Int32) (na_12_74 : Nat → Int32) (nb_12_70 : Nat → Int64) (ni_12_67 : Int32), (∀ j, inb (bA 12 71 j) (na_12_71 j)) ∧ inb (bI 12 67) ni_12_67 ∧ ni_12_67.toInt = (iv 12 67).toInt + 1 ∧ (ApY ((iv 12 67).toInt).toNat (fa 12 68) (fa 12 69) (la 12 70) (fa 12 71) (fa 12 72) (fa 12 73) na_12_68 na_12_69 nb_12_70 na_12_71 na_12_72 na_12_73 a.toInt b.toInt d.toInt k.toInt (iv 12 0).toInt) ∧ u = ((u2 iv 12 67 ni_12_67), lv, (u2 (u2 (u2 (u2 (u2 (u2 fa 12 68 na_12_68) 12 69 na_12_69) 12 71 na_12_71) 12 72 na_12_72) 12 73 na_12_73) 12 74 na_12_74), (u2 la 12 70 nb_12_70))) (bM (dC, dI) h g ca (va_A (WM h g ca iv lv fa la) sz)) (va_A (WM h g ca iv lv fa la) sz)) 0 0 (va_A (WM h g ca iv lv fa la) sz) := by
  refine Met.ofW (cc := cX12_add) (maxL := 7) (ret := none) (by decide) rfl ?_
  intro p e s m args below meth c s₁ B hml hv
  obtain ⟨rfl, hsz, hP, hK, hD0⟩ := hv
  have hx := B.exec
  have hb := B.bytes
  have hr := B.returns
  have ht := tb_tl (atoms_spec (ws := wc yX12_add cX12_add 7 none) B.pre)
  have hown : s.vm.findClass RX12 = some m.cls := findClass_of_methodNamed B.named
  have hlocks := B.notSynchronized
  subst hsz
  have hD := hD0.self (sz := s.heap.size)
  generalize hAe : va_A (WM h g ca iv lv fa la) s.heap.size = A at hD ⊢
  have hA : ∀ q : Nat, s.heap.size ≤ q → A q := fun q h => by rw [← hAe]; exact Or.inr h
  have hS : va_S A s.heap s.heap [] := va_S.rf
  have hl := lv_entry [.ref h, .int a, .int b, .long d, .int k, .int n] (n := 7) (Nat.le_of_ble_eq_true rfl)
  rw [lg_entry_eq]
  generalize (lg_sl [.ref h, .int a, .int b, .long d, .int k, .int n] ++ List.replicate (7 - (lg_sl [.ref h, .int a, .int b, .long d, .int k, .int n]).length) Slot.unset).toArray = ls at hl ⊢
  have hl : lv_has ls 7 [(0, .ref h), (1, .int a), (2, .int b), (3, .long d), (5, .int k), (6, .int n)] := hl
  refine lv_aload_n hx hb dX12_add_0 rfl (lv_at hl 0 rfl) ?_
  refine gM_12_68 hx hb ht hown hK hP m_1207 dX12_add_1 ?_
  refine lv_aload_n hx hb dX12_add_4 rfl (lv_at hl 0 rfl) ?_
  have i_12_67 : 0 ≤ (iv 12 67).toInt ∧ (iv 12 67).toInt ≤ 40 := hI.1 12 67
  refine gM_12_67 hx hb ht hown hK hP m_1206 (v := (iv 12 67)) rfl dX12_add_5 ?_
  refine lv_iload_n hx hb dX12_add_8 rfl (lv_at hl 1 rfl) ?_
  refine tM_12_68 hx hb hK hP hD hS (f0 := (fa 12 68)) rfl (i := (iv 12 67)) (x := a) (vp_in_iff.mpr ⟨by omega, by omega⟩) dX12_add_9 (fun f1 ef1 H locs hP hD hS => ?_)
  have hf1 : ∀ j, inb (bA 12 68 j) (f1 j) := fun j => full_i _
  refine lv_aload_n hx hb dX12_add_10 rfl (lv_at hl 0 rfl) ?_
  refine gM_12_69 hx hb ht hown hK hP m_1208 dX12_add_11 ?_
  refine lv_aload_n hx hb dX12_add_14 rfl (lv_at hl 0 rfl) ?_
  refine gM_12_67 hx hb ht hown hK hP m_1206 (v := (iv 12 67)) rfl dX12_add_15 ?_
  refine lv_iload_n hx hb dX12_add_18 rfl (lv_at hl 2 rfl) ?_
  refine tM_12_69 hx hb hK hP hD hS (f0 := (fa 12 69)) rfl (i := (iv 12 67)) (x := b) (vp_in_iff.mpr ⟨by omega, by omega⟩) dX12_add_19 (fun f2 ef2 H locs hP hD hS => ?_)
  have hf2 : ∀ j, inb (bA 12 69 j) (f2 j) := fun j => full_i _
  refine lv_aload_n hx hb dX12_add_20 rfl (lv_at hl 0 rfl) ?_
  refine gM_12_70 hx hb ht hown hK hP m_1209 dX12_add_21 ?_
  refine lv_aload_n hx hb dX12_add_24 rfl (lv_at hl 0 rfl) ?_
  refine gM_12_67 hx hb ht hown hK hP m_1206 (v := (iv 12 67)) rfl dX12_add_25 ?_
  refine lv_lload_n hx hb dX12_add_28 rfl (lv_at hl 3 rfl) ?_
  refine tM_12_70 hx hb hK hP hD hS (f0 := (la 12 70)) rfl (i := (iv 12 67)) (x := d) (vp_in_iff.mpr ⟨by omega, by omega⟩) dX12_add_29 (fun f3 ef3 H locs hP hD hS => ?_)
  refine lv_aload_n hx hb dX12_add_30 rfl (lv_at hl 0 rfl) ?_
  refine gM_12_71 hx hb ht hown hK hP m_1210 dX12_add_31 ?_
  refine lv_aload_n hx hb dX12_add_34 rfl (lv_at hl 0 rfl) ?_
  refine gM_12_67 hx hb ht hown hK hP m_1206 (v := (iv 12 67)) rfl dX12_add_35 ?_
  refine lv_iload hx hb dX12_add_38 (lv_at hl 4 rfl) ?_
  refine tM_12_71 hx hb hK hP hD hS (f0 := (fa 12 71)) rfl (i := (iv 12 67)) (x := k) (vp_in_iff.mpr ⟨by omega, by omega⟩) dX12_add_40 (fun f4 ef4 H locs hP hD hS => ?_)
  have hf4 : ∀ j, inb (bA 12 71 j) (f4 j) := by rw [ef4]; exact upd_b (b := bA 12 71) (hI.2 12 71) (show inb ((-1), 39) k from ⟨by omega, by omega⟩)
  refine lv_aload_n hx hb dX12_add_41 rfl (lv_at hl 0 rfl) ?_
  refine gM_12_72 hx hb ht hown hK hP m_1211 dX12_add_42 ?_
  refine lv_aload_n hx hb dX12_add_45 rfl (lv_at hl 0 rfl) ?_
  refine gM_12_67 hx hb ht hown hK hP m_1206 (v := (iv 12 67)) rfl dX12_add_46 ?_
  refine lv_aload_n hx hb dX12_add_49 rfl (lv_at hl 0 rfl) ?_
  have i_12_0 : 0 ≤ (iv 12 0).toInt ∧ (iv 12 0).toInt ≤ 3000 := hI.1 12 0
  refine gM_12_0 hx hb ht hown hK hP m_1139 (v := (iv 12 0)) rfl dX12_add_50 ?_
  refine tM_12_72 hx hb hK hP hD hS (f0 := (fa 12 72)) rfl (i := (iv 12 67)) (x := (iv 12 0)) (vp_in_iff.mpr ⟨by omega, by omega⟩) dX12_add_53 (fun f5 ef5 H locs hP hD hS => ?_)
  have hf5 : ∀ j, inb (bA 12 72 j) (f5 j) := fun j => full_i _
  refine lv_aload_n hx hb dX12_add_54 rfl (lv_at hl 0 rfl) ?_
  refine gM_12_73 hx hb ht hown hK hP m_1212 dX12_add_55 ?_
  refine lv_aload_n hx hb dX12_add_58 rfl (lv_at hl 0 rfl) ?_
  refine gM_12_67 hx hb ht hown hK hP m_1206 (v := (iv 12 67)) rfl dX12_add_59 ?_
  refine lv_iconst (v := (-1)) hx hb dX12_add_62 (by decide) ?_
  refine tM_12_73 hx hb hK hP hD hS (f0 := (fa 12 73)) rfl (i := (iv 12 67)) (x := (-1)) (vp_in_iff.mpr ⟨by omega, by omega⟩) dX12_add_63 (fun f6 ef6 H locs hP hD hS => ?_)
  have hf6 : ∀ j, inb (bA 12 73 j) (f6 j) := fun j => full_i _
  refine lv_aload_n hx hb dX12_add_64 rfl (lv_at hl 0 rfl) ?_
  refine gM_12_74 hx hb ht hown hK hP m_1213 dX12_add_65 ?_
  refine lv_aload_n hx hb dX12_add_68 rfl (lv_at hl 0 rfl) ?_
  refine gM_12_67 hx hb ht hown hK hP m_1206 (v := (iv 12 67)) rfl dX12_add_69 ?_
  refine lv_iload hx hb dX12_add_72 (lv_at hl 5 rfl) ?_
  refine tM_12_74 hx hb hK hP hD hS (f0 := (fa 12 74)) rfl (i := (iv 12 67)) (x := n) (vp_in_iff.mpr ⟨by omega, by omega⟩) dX12_add_74 (fun f7 ef7 H locs hP hD hS => ?_)
  have hf7 : ∀ j, inb (bA 12 74 j) (f7 j) := fun j => full_i _
  refine lv_aload_n hx hb dX12_add_75 rfl (lv_at hl 0 rfl) ?_
  refine lv_dup hx hb dX12_add_76 rfl ?_
  refine gM_12_67 hx hb ht hown hK hP m_1206 (v := (iv 12 67)) rfl dX12_add_77 ?_
  refine lv_iconst (v := 1) hx hb dX12_add_80 (by decide) ?_
  refine lv_iadd hx hb dX12_add_81 ?_
  refine lv_topi (fun v8 ev8 => ?_)
  have tv8 := z_add ev8 (rfl : ((iv 12 67)).toInt = _) (by decide : (1 : Int32).toInt = 1) (by omega) (by omega)
  refine pM_12_67 (v := v8) hx hb ht hown hK hP hD hS m_1206 dX12_add_82 (fun H locs hP hD hS => ?_)
  have hP9 : va_P (dC, dI) classes (WM h g ca (u2 iv 12 67 v8) lv (u2 (u2 (u2 (u2 (u2 (u2 fa 12 68 f1) 12 69 f2) 12 71 f4) 12 72 f5) 12 73 f6) 12 74 f7) (u2 la 12 70 f3)) H := hP
  have hD9 : va_D A (WM h g ca (u2 iv 12 67 v8) lv (u2 (u2 (u2 (u2 (u2 (u2 fa 12 68 f1) 12 69 f2) 12 71 f4) 12 72 f5) 12 73 f6) 12 74 f7) (u2 la 12 70 f3)) := hD
  exact W.vret hx hb hr (fun t ht9 hW => ⟨⟨((u2 iv 12 67 v8), lv, (u2 (u2 (u2 (u2 (u2 (u2 fa 12 68 f1) 12 69 f2) 12 71 f4) 12 72 f5) 12 73 f6) 12 74 f7), (u2 la 12 70 f3)), rfl, ⟨f1, f2, f4, f5, f6, f7, f3, v8, hf4, (show inb (0, 40) v8 from ⟨by omega, by omega⟩), (by omega), (show ApY ((iv 12 67).toInt).toNat (fa 12 68) (fa 12 69) (la 12 70) (fa 12 71) (fa 12 72) (fa 12 73) f1 f2 f3 f4 f5 f6 (a).toInt (b).toInt (d).toInt (k).toInt (iv 12 0).toInt from ⟨fun j hj => ⟨(by rw [ef1, upd_ne (show j ≠ ((iv 12 67) : Int32).toNatClampNeg from hj)]), (by rw [ef2, upd_ne (show j ≠ ((iv 12 67) : Int32).toNatClampNeg from hj)]), (by rw [ef3, updL_ne (show j ≠ ((iv 12 67) : Int32).toNatClampNeg from hj)]), (by rw [ef4, upd_ne (show j ≠ ((iv 12 67) : Int32).toNatClampNeg from hj)]), (by rw [ef5, upd_ne (show j ≠ ((iv 12 67) : Int32).toNatClampNeg from hj)]), (by rw [ef6, upd_ne (show j ≠ ((iv 12 67) : Int32).toNatClampNeg from hj)])⟩, (by rw [show f1 ((iv 12 67).toInt).toNat = a from (by rw [ef1]; exact upd_eq)]), (by rw [show f2 ((iv 12 67).toInt).toNat = b from (by rw [ef2]; exact upd_eq)]), (by rw [show f3 ((iv 12 67).toInt).toNat = d from (by rw [ef3]; exact updL_eq)]), (by rw [show f4 ((iv 12 67).toInt).toNat = k from (by rw [ef4]; exact upd_eq)]), (by rw [show f5 ((iv 12 67).toInt).toNat = (iv 12 0) from (by rw [ef5]; exact upd_eq)]), (by rw [show f6 ((iv 12 67).toInt).toNat = (-1) from (by rw [ef6]; exact upd_eq)] <;> decide)⟩), rfl⟩, by rw [ht9]; exact hP9, hD9⟩, hS.F ht9⟩) hS.2.2 dX12_add_85
set_option maxHeartbeats 4000000 in
set_option maxRecDepth 100000 in
/-- X12_stands -/
theorem c_X12_stands_w (l : Launch) (dC : Nat → ClassId) (dI : Nat → Nat → Nat) (h : Nat) (g : Nat → Nat → Nat) (ca : Nat → Nat → ClassId) (iv : Nat → Nat → Int32) (lv : Nat → Nat → Int64) (fa : Nat → Nat → Nat → Int32) (la : Nat → Nat → Nat → Int64) (hI : IX iv fa) (a : Int32) (h_a : 0 ≤ a.toInt ∧ a.toInt ≤ 39) : Met l yX12_stands (wc yX12_stands cX12_stands 2 (some .boolean)) ({ frames := 0, cells := 0, slots := 0, locals := 0 } : Room) (pR (dC, dI) classes (WM h g ca iv lv fa la) (TM ca) [.ref h, .int a]) (vp_Si (fun r => (0 ≤ r.toInt ∧ r.toInt ≤ 1) ∧ (((r.toInt = 1 ∧ StY (fa 12 68) (fa 12 73) (a.toInt).toNat) ∨ (r.toInt = 0 ∧ ¬ StY (fa 12 68) (fa 12 73) (a.toInt).toNat))))) 0 0 (fun _ => False) := by
  refine Met.ofW (cc := cX12_stands) (maxL := 2) (ret := (some .boolean)) (by decide) rfl ?_
  intro p e s m args below meth c s₁ B hml hv
  obtain ⟨rfl, hP, hK⟩ := hv
  have hx := B.exec
  have hb := B.bytes
  have hr := B.returns
  have ht := tb_tl (atoms_spec (ws := wc yX12_stands cX12_stands 2 (some .boolean)) B.pre)
  have hown : s.vm.findClass RX12 = some m.cls := findClass_of_methodNamed B.named
  have hlocks := B.notSynchronized
  have hl := lv_entry [.ref h, .int a] (n := 2) (Nat.le_of_ble_eq_true rfl)
  rw [lg_entry_eq]
  generalize (lg_sl [.ref h, .int a] ++ List.replicate (2 - (lg_sl [.ref h, .int a]).length) Slot.unset).toArray = ls at hl ⊢
  have hl : lv_has ls 2 [(0, .ref h), (1, .int a)] := hl
  refine lv_aload_n hx hb dX12_stands_0 rfl (lv_at hl 0 rfl) ?_
  refine gM_12_68 hx hb ht hown hK hP m_1207 dX12_stands_1 ?_
  refine lv_iload_n hx hb dX12_stands_4 rfl (lv_at hl 1 rfl) ?_
  refine lM_12_68 hx hb hK hP (f := (fa 12 68)) rfl (vp_in_iff.mpr ⟨by omega, by omega⟩) dX12_stands_5 ?_
  refine lv_topi (fun v1 ev1 => ?_)
  refine lv_if_ne (tgt := 22) hx hb dX12_stands_6 (by decide) (fun c2 => ?_) (fun c2 => ?_)
  · have fc2 := z_ne (rfl : (v1).toInt = _) (by decide : (0 : Int32).toInt = 0) c2
    refine lv_iconst (v := 0) hx hb dX12_stands_22 (by decide) ?_
    have : (0 : Int32).toInt = 0 := (by decide)
    exact W.zret (v := 0) hx hb hr rfl (fun t ht9 hW => ⟨0, rfl, ⟨⟨by decide, by decide⟩, (show (((0 : Int32).toInt = 1 ∧ StY (fa 12 68) (fa 12 73) ((a).toInt).toNat) ∨ ((0 : Int32).toInt = 0 ∧ ¬ StY (fa 12 68) (fa 12 73) ((a).toInt).toNat)) from (by have z9_68 := congrArg Int32.toInt (show v1 = fa 12 68 (a.toInt).toNat from ev1); unfold StY; omega))⟩, ht9⟩) (fun q hq => by cases hq) dX12_stands_23
  · have fc2 := z_eq (rfl : (v1).toInt = _) (by decide : (0 : Int32).toInt = 0) c2
    refine lv_aload_n hx hb dX12_stands_9 rfl (lv_at hl 0 rfl) ?_
    refine gM_12_73 hx hb ht hown hK hP m_1212 dX12_stands_10 ?_
    refine lv_iload_n hx hb dX12_stands_13 rfl (lv_at hl 1 rfl) ?_
    refine lM_12_73 hx hb hK hP (f := (fa 12 73)) rfl (vp_in_iff.mpr ⟨by omega, by omega⟩) dX12_stands_14 ?_
    refine lv_topi (fun v3 ev3 => ?_)
    refine lv_if_ge (tgt := 22) hx hb dX12_stands_15 (by decide) (fun c4 => ?_) (fun c4 => ?_)
    · have fc4 := z_le (by decide : (0 : Int32).toInt = 0) (rfl : (v3).toInt = _) c4
      refine lv_iconst (v := 0) hx hb dX12_stands_22 (by decide) ?_
      have : (0 : Int32).toInt = 0 := (by decide)
      exact W.zret (v := 0) hx hb hr rfl (fun t ht9 hW => ⟨0, rfl, ⟨⟨by decide, by decide⟩, (show (((0 : Int32).toInt = 1 ∧ StY (fa 12 68) (fa 12 73) ((a).toInt).toNat) ∨ ((0 : Int32).toInt = 0 ∧ ¬ StY (fa 12 68) (fa 12 73) ((a).toInt).toNat)) from (by have z9_68 := congrArg Int32.toInt (show v1 = fa 12 68 (a.toInt).toNat from ev1); have z9_73 := congrArg Int32.toInt (show v3 = fa 12 73 (a.toInt).toNat from ev3); unfold StY; omega))⟩, ht9⟩) (fun q hq => by cases hq) dX12_stands_23
    · have fc4 := z_nle (by decide : (0 : Int32).toInt = 0) (rfl : (v3).toInt = _) c4
      refine lv_iconst (v := 1) hx hb dX12_stands_18 (by decide) ?_
      refine lv_goto (tgt := 23) hx hb dX12_stands_19 (by decide) ?_
      have : (1 : Int32).toInt = 1 := (by decide)
      exact W.zret (v := 1) hx hb hr rfl (fun t ht9 hW => ⟨1, rfl, ⟨⟨by decide, by decide⟩, (show (((1 : Int32).toInt = 1 ∧ StY (fa 12 68) (fa 12 73) ((a).toInt).toNat) ∨ ((1 : Int32).toInt = 0 ∧ ¬ StY (fa 12 68) (fa 12 73) ((a).toInt).toNat)) from (by have z9_68 := congrArg Int32.toInt (show v1 = fa 12 68 (a.toInt).toNat from ev1); have z9_73 := congrArg Int32.toInt (show v3 = fa 12 73 (a.toInt).toNat from ev3); unfold StY; omega))⟩, ht9⟩) (fun q hq => by cases hq) dX12_stands_23
set_option maxHeartbeats 4000000 in
set_option maxRecDepth 100000 in
/-- X12_bill -/
theorem c_X12_bill_w (l : Launch) (dC : Nat → ClassId) (dI : Nat → Nat → Nat) (sz : Nat) (h : Nat) (g : Nat → Nat → Nat) (ca : Nat → Nat → ClassId) (iv : Nat → Nat → Int32) (lv : Nat → Nat → Int64) (fa : Nat → Nat → Nat → Int32) (la : Nat → Nat → Nat → Int64) (hI : IX iv fa) (a : Int32) (b : Int32) (hJQ : ∀ p : Nat, (p : Int) < (iv 12 67).toInt → 0 ≤ (la 12 70 p).toInt ∧ ((fa 12 68 p).toInt = 0 → (la 12 70 p).toInt ≤ 129998) ∧ (la 12 70 p).toInt ≤ 129868002 ∧ -1 ≤ (fa 12 71 p).toInt ∧ (fa 12 71 p).toInt < (p : Int)) : Met l yX12_bill (wc yX12_bill cX12_bill 3 (some .int)) ({ frames := 2, cells := 0, slots := 0, locals := 46 } : Room) (pW (dC, dI) classes (WM h g ca iv lv fa la) (TM ca) sz [.ref h, .int a, .int b]) (va_Qi (fun r (u : SS) => ∃ (na_12_68 : Nat → Int32) (na_12_69 : Nat → Int32) (na_12_71 : Nat → Int32) (na_12_72 : Nat → Int32) (na_12_73 : Nat → Int32) (na_12_74 : Nat → Int32) (nb_12_70 : Nat → Int64) (ni_12_67 : Int32), (∀ j, inb (bA 12 71 j) (na_12_71 j)) ∧ inb (bI 12 67) ni_12_67 ∧ (((r.toInt = -100001 ∧ ¬ (0 ≤ a.toInt ∧ a.toInt < (iv 12 67).toInt) ∧ SmY (fa 12 68) (fa 12 69) (la 12 70) (fa 12 71) (fa 12 72) (fa 12 73) na_12_68 na_12_69 nb_12_70 na_12_71 na_12_72 na_12_73 ∧ (ni_12_67).toInt = (iv 12 67).toInt) ∨ (r.toInt = -100002 ∧ (0 ≤ a.toInt ∧ a.toInt < (iv 12 67).toInt) ∧ ¬ (0 ≤ b.toInt ∧ b.toInt ≤ 999) ∧ SmY (fa 12 68) (fa 12 69) (la 12 70) (fa 12 71) (fa 12 72) (fa 12 73) na_12_68 na_12_69 nb_12_70 na_12_71 na_12_72 na_12_73 ∧ (ni_12_67).toInt = (iv 12 67).toInt) ∨ (r.toInt = -100003 ∧ (0 ≤ a.toInt ∧ a.toInt < (iv 12 67).toInt) ∧ (0 ≤ b.toInt ∧ b.toInt ≤ 999) ∧ ¬ StY (fa 12 68) (fa 12 73) (a.toInt).toNat ∧ SmY (fa 12 68) (fa 12 69) (la 12 70) (fa 12 71) (fa 12 72) (fa 12 73) na_12_68 na_12_69 nb_12_70 na_12_71 na_12_72 na_12_73 ∧ (ni_12_67).toInt = (iv 12 67).toInt) ∨ (r.toInt = -100004 ∧ (0 ≤ a.toInt ∧ a.toInt < (iv 12 67).toInt) ∧ (0 ≤ b.toInt ∧ b.toInt ≤ 999) ∧ StY (fa 12 68) (fa 12 73) (a.toInt).toNat ∧ 40 ≤ (iv 12 67).toInt ∧ SmY (fa 12 68) (fa 12 69) (la 12 70) (fa 12 71) (fa 12 72) (fa 12 73) na_12_68 na_12_69 nb_12_70 na_12_71 na_12_72 na_12_73 ∧ (ni_12_67).toInt = (iv 12 67).toInt) ∨ ((0 ≤ a.toInt ∧ a.toInt < (iv 12 67).toInt) ∧ (0 ≤ b.toInt ∧ b.toInt ≤ 999) ∧ StY (fa 12 68) (fa 12 73) (a.toInt).toNat ∧ (iv 12 67).toInt < 40 ∧ r.toInt = (iv 12 67).toInt ∧ (ni_12_67).toInt = (iv 12 67).toInt + 1 ∧ ApY ((iv 12 67).toInt).toNat (fa 12 68) (fa 12 69) (la 12 70) (fa 12 71) (fa 12 72) (fa 12 73) na_12_68 na_12_69 nb_12_70 na_12_71 na_12_72 na_12_73 1 ((fa 12 69) (a.toInt).toNat).toInt (((la 12 70) (a.toInt).toNat).toInt * b.toInt) a.toInt (iv 12 0).toInt))) ∧ ((-100004) ≤ r.toInt ∧ r.toInt ≤ 39) ∧ u = ((u2 iv 12 67 ni_12_67), lv, (u2 (u2 (u2 (u2 (u2 (u2 fa 12 68 na_12_68) 12 69 na_12_69) 12 71 na_12_71) 12 72 na_12_72) 12 73 na_12_73) 12 74 na_12_74), (u2 la 12 70 nb_12_70))) (bM (dC, dI) h g ca (va_A (WM h g ca iv lv fa la) sz)) (va_A (WM h g ca iv lv fa la) sz)) 0 0 (va_A (WM h g ca iv lv fa la) sz) := by
  refine Met.ofW (cc := cX12_bill) (maxL := 3) (ret := (some .int)) (by decide) rfl ?_
  intro p e s m args below meth c s₁ B hml hv
  obtain ⟨rfl, hsz, hP, hK, hD0⟩ := hv
  have hx := B.exec
  have hb := B.bytes
  have hr := B.returns
  have ht := tb_tl (atoms_spec (ws := wc yX12_bill cX12_bill 3 (some .int)) B.pre)
  have hown : s.vm.findClass RX12 = some m.cls := findClass_of_methodNamed B.named
  have hlocks := B.notSynchronized
  subst hsz
  have hD := hD0.self (sz := s.heap.size)
  generalize hAe : va_A (WM h g ca iv lv fa la) s.heap.size = A at hD ⊢
  have hA : ∀ q : Nat, s.heap.size ≤ q → A q := fun q h => by rw [← hAe]; exact Or.inr h
  have hS : va_S A s.heap s.heap [] := va_S.rf
  have hl := lv_entry [.ref h, .int a, .int b] (n := 3) (Nat.le_of_ble_eq_true rfl)
  rw [lg_entry_eq]
  generalize (lg_sl [.ref h, .int a, .int b] ++ List.replicate (3 - (lg_sl [.ref h, .int a, .int b]).length) Slot.unset).toArray = ls at hl ⊢
  have hl : lv_has ls 3 [(0, .ref h), (1, .int a), (2, .int b)] := hl
  refine lv_aload_n hx hb dX12_bill_0 rfl (lv_at hl 0 rfl) ?_
  refine lv_iload_n hx hb dX12_bill_1 rfl (lv_at hl 1 rfl) ?_
  refine vp_callSi (W.runV (As := [.int a]) (rest := []) ⟨hx, hb, hml, hown, ht⟩ (c_X12_noPaper l dC dI h g ca iv lv fa la hI a) (kV 1 ht m_1684 m_1686 m_73 m_89 m_1687 rfl rfl hd_X12_noPaper_v ⟨Nat.le_of_ble_eq_true rfl, Nat.le_of_ble_eq_true rfl⟩) (vR hP hK (rM_12 hK hP)) rfl rfl hl.1 rfl (lv_room (Nat.le_of_ble_eq_true rfl)) dX12_bill_2 ⟨Nat.le_of_ble_eq_true rfl, Nat.le_of_ble_eq_true rfl⟩) (fun r1 hr1 => ?_)
  rcases hr1 with ⟨rfl, fr1⟩ | ⟨rfl, fr1⟩
  · skip
    have i_12_67 : 0 ≤ (iv 12 67).toInt ∧ (iv 12 67).toInt ≤ 40 := hI.1 12 67
    have fr1 : ¬ (0 ≤ (a : Int32).toInt ∧ (a : Int32).toInt < ((iv 12 67) : Int32).toInt) := fr1
    refine lv_if_eq (tgt := 11) hx hb dX12_bill_5 (by decide) (fun c2 => ?_) (fun c2 => ?_)
    · exact absurd c2 (by decide)
    · skip
      refine lv_ldc hx hb hown (ht _ m_1389) dX12_bill_8 ?_
      have : ((-100001) : Int32).toInt = (-100001) := (by decide)
      have hP9 : va_P (dC, dI) classes (WM h g ca (u2 iv 12 67 (iv 12 67)) lv (u2 (u2 (u2 (u2 (u2 (u2 fa 12 68 (fa 12 68)) 12 69 (fa 12 69)) 12 71 (fa 12 71)) 12 72 (fa 12 72)) 12 73 (fa 12 73)) 12 74 (fa 12 74)) (u2 la 12 70 (la 12 70))) s.heap := hP
      have hD9 : va_D A (WM h g ca (u2 iv 12 67 (iv 12 67)) lv (u2 (u2 (u2 (u2 (u2 (u2 fa 12 68 (fa 12 68)) 12 69 (fa 12 69)) 12 71 (fa 12 71)) 12 72 (fa 12 72)) 12 73 (fa 12 73)) 12 74 (fa 12 74)) (u2 la 12 70 (la 12 70))) := hD
      exact W.iret (v := (-100001)) hx hb hr (fun t ht9 hW => ⟨⟨(-100001), ((u2 iv 12 67 (iv 12 67)), lv, (u2 (u2 (u2 (u2 (u2 (u2 fa 12 68 (fa 12 68)) 12 69 (fa 12 69)) 12 71 (fa 12 71)) 12 72 (fa 12 72)) 12 73 (fa 12 73)) 12 74 (fa 12 74)), (u2 la 12 70 (la 12 70))), rfl, ⟨(fa 12 68), (fa 12 69), (fa 12 71), (fa 12 72), (fa 12 73), (fa 12 74), (la 12 70), (iv 12 67), (hI.2 12 71), (hI.1 12 67), (show ((((-100001) : Int32).toInt = -100001 ∧ ¬ (0 ≤ (a).toInt ∧ (a).toInt < (iv 12 67).toInt) ∧ SmY (fa 12 68) (fa 12 69) (la 12 70) (fa 12 71) (fa 12 72) (fa 12 73) (fa 12 68) (fa 12 69) (la 12 70) (fa 12 71) (fa 12 72) (fa 12 73) ∧ ((iv 12 67) : Int32).toInt = (iv 12 67).toInt) ∨ (((-100001) : Int32).toInt = -100002 ∧ (0 ≤ (a).toInt ∧ (a).toInt < (iv 12 67).toInt) ∧ ¬ (0 ≤ (b).toInt ∧ (b).toInt ≤ 999) ∧ SmY (fa 12 68) (fa 12 69) (la 12 70) (fa 12 71) (fa 12 72) (fa 12 73) (fa 12 68) (fa 12 69) (la 12 70) (fa 12 71) (fa 12 72) (fa 12 73) ∧ ((iv 12 67) : Int32).toInt = (iv 12 67).toInt) ∨ (((-100001) : Int32).toInt = -100003 ∧ (0 ≤ (a).toInt ∧ (a).toInt < (iv 12 67).toInt) ∧ (0 ≤ (b).toInt ∧ (b).toInt ≤ 999) ∧ ¬ StY (fa 12 68) (fa 12 73) ((a).toInt).toNat ∧ SmY (fa 12 68) (fa 12 69) (la 12 70) (fa 12 71) (fa 12 72) (fa 12 73) (fa 12 68) (fa 12 69) (la 12 70) (fa 12 71) (fa 12 72) (fa 12 73) ∧ ((iv 12 67) : Int32).toInt = (iv 12 67).toInt) ∨ (((-100001) : Int32).toInt = -100004 ∧ (0 ≤ (a).toInt ∧ (a).toInt < (iv 12 67).toInt) ∧ (0 ≤ (b).toInt ∧ (b).toInt ≤ 999) ∧ StY (fa 12 68) (fa 12 73) ((a).toInt).toNat ∧ 40 ≤ (iv 12 67).toInt ∧ SmY (fa 12 68) (fa 12 69) (la 12 70) (fa 12 71) (fa 12 72) (fa 12 73) (fa 12 68) (fa 12 69) (la 12 70) (fa 12 71) (fa 12 72) (fa 12 73) ∧ ((iv 12 67) : Int32).toInt = (iv 12 67).toInt) ∨ ((0 ≤ (a).toInt ∧ (a).toInt < (iv 12 67).toInt) ∧ (0 ≤ (b).toInt ∧ (b).toInt ≤ 999) ∧ StY (fa 12 68) (fa 12 73) ((a).toInt).toNat ∧ (iv 12 67).toInt < 40 ∧ ((-100001) : Int32).toInt = (iv 12 67).toInt ∧ ((iv 12 67) : Int32).toInt = (iv 12 67).toInt + 1 ∧ ApY ((iv 12 67).toInt).toNat (fa 12 68) (fa 12 69) (la 12 70) (fa 12 71) (fa 12 72) (fa 12 73) (fa 12 68) (fa 12 69) (la 12 70) (fa 12 71) (fa 12 72) (fa 12 73) 1 ((fa 12 69) ((a).toInt).toNat).toInt (((la 12 70) ((a).toInt).toNat).toInt * (b).toInt) (a).toInt (iv 12 0).toInt)) from Or.inl ⟨by omega, by omega, (fun j => ⟨rfl, rfl, rfl, rfl, rfl, rfl⟩), by omega⟩), ⟨by decide, by decide⟩, rfl⟩, by rw [ht9]; exact hP9, hD9⟩, hS.F ht9⟩) hS.2.2 dX12_bill_10
  · skip
    have i_12_67 : 0 ≤ (iv 12 67).toInt ∧ (iv 12 67).toInt ≤ 40 := hI.1 12 67
    have fr1 : (0 ≤ (a : Int32).toInt ∧ (a : Int32).toInt < ((iv 12 67) : Int32).toInt) := Decidable.not_not.mp fr1
    refine lv_if_eq (tgt := 11) hx hb dX12_bill_5 (by decide) (fun c3 => ?_) (fun c3 => ?_)
    · skip
      refine lv_iload_n hx hb dX12_bill_11 rfl (lv_at hl 2 rfl) ?_
      refine lv_i2l (v := (b.toInt64)) hx hb dX12_bill_12 rfl ?_
      refine lv_lconst (v := 0) hx hb dX12_bill_13 (by decide) ?_
      refine lv_ldc2 hx hb hown (ht _ m_1369) dX12_bill_14 ?_
      refine vp_callSi (W.runS (As := [.long (b.toInt64), .long 0, .long 999]) (rest := []) ⟨hx, hb, hml, hown, ht⟩ (c_X12_in l dC dI (b.toInt64) 0 999 (b.toInt) (0) (999) ((Int32.toInt_toInt64 b).trans rfl) (by decide : (0 : Int64).toInt = 0) (by decide : (999 : Int64).toInt = 999)) (kS 3 ht m_1370 m_1371 m_89 m_1372 rfl rfl hd_X12_in_v ⟨Nat.le_of_ble_eq_true rfl, Nat.le_of_ble_eq_true rfl⟩) (sR noP (hK.sub (tys' := []) [] rfl)) rfl rfl hl.1 rfl (lv_room (Nat.le_of_ble_eq_true rfl)) dX12_bill_17 ⟨Nat.le_of_ble_eq_true rfl, Nat.le_of_ble_eq_true rfl⟩) (fun r4 hr4 => ?_)
      rcases hr4 with ⟨rfl, fr4⟩ | ⟨rfl, fr4⟩
      · skip
        refine lv_if_ne (tgt := 26) hx hb dX12_bill_20 (by decide) (fun c5 => ?_) (fun c5 => ?_)
        · skip
          refine lv_aload_n hx hb dX12_bill_26 rfl (lv_at hl 0 rfl) ?_
          refine lv_iload_n hx hb dX12_bill_27 rfl (lv_at hl 1 rfl) ?_
          refine vp_callSi (W.runV (As := [.int a]) (rest := []) ⟨hx, hb, hml, hown, ht⟩ (c_X12_stands_w l dC dI h g ca iv lv fa la hI a ⟨by omega, by omega⟩) (kV 1 ht m_1688 m_1690 m_74 m_89 m_1691 rfl rfl hd_X12_stands_v ⟨Nat.le_of_ble_eq_true rfl, Nat.le_of_ble_eq_true rfl⟩) (vR hP hK (rM_12 hK hP)) rfl rfl hl.1 rfl (lv_room (Nat.le_of_ble_eq_true rfl)) dX12_bill_28 ⟨Nat.le_of_ble_eq_true rfl, Nat.le_of_ble_eq_true rfl⟩) (fun r6 hr6 => ?_)
          obtain ⟨hr6, xr6_0⟩ := hr6
          have xr6_0 : (((r6 : Int32).toInt = 1 ∧ StY (fa 12 68) (fa 12 73) ((a : Int32).toInt).toNat) ∨ ((r6 : Int32).toInt = 0 ∧ ¬ StY (fa 12 68) (fa 12 73) ((a : Int32).toInt).toNat)) := xr6_0
          refine lv_if_ne (tgt := 37) hx hb dX12_bill_31 (by decide) (fun c7 => ?_) (fun c7 => ?_)
          · have fc7 := z_ne (rfl : (r6).toInt = _) (by decide : (0 : Int32).toInt = 0) c7
            refine lv_aload_n hx hb dX12_bill_37 rfl (lv_at hl 0 rfl) ?_
            refine gM_12_67 hx hb ht hown hK hP m_1206 (v := (iv 12 67)) rfl dX12_bill_38 ?_
            refine lv_bipush (v := 40) hx hb dX12_bill_41 (by decide) ?_
            refine lv_icmp_ne (tgt := 49) hx hb dX12_bill_43 (by decide) (fun c8 => ?_) (fun c8 => ?_)
            · have fc8 := z_ne (rfl : ((iv 12 67)).toInt = _) (by decide : (40 : Int32).toInt = 40) c8
              refine lv_aload_n hx hb dX12_bill_49 rfl (lv_at hl 0 rfl) ?_
              refine lv_iconst (v := 1) hx hb dX12_bill_50 (by decide) ?_
              refine lv_aload_n hx hb dX12_bill_51 rfl (lv_at hl 0 rfl) ?_
              refine gM_12_69 hx hb ht hown hK hP m_1208 dX12_bill_52 ?_
              refine lv_iload_n hx hb dX12_bill_55 rfl (lv_at hl 1 rfl) ?_
              refine lM_12_69 hx hb hK hP (f := (fa 12 69)) rfl (vp_in_iff.mpr ⟨by omega, by omega⟩) dX12_bill_56 ?_
              refine lv_topi (fun v9 ev9 => ?_)
              refine lv_aload_n hx hb dX12_bill_57 rfl (lv_at hl 0 rfl) ?_
              refine gM_12_70 hx hb ht hown hK hP m_1209 dX12_bill_58 ?_
              refine lv_iload_n hx hb dX12_bill_61 rfl (lv_at hl 1 rfl) ?_
              refine lM_12_70 hx hb hK hP (f := (la 12 70)) rfl (vp_in_iff.mpr ⟨by omega, by omega⟩) dX12_bill_62 ?_
              refine lv_topl (fun w10 ew10 => ?_)
              refine lv_iload_n hx hb dX12_bill_63 rfl (lv_at hl 2 rfl) ?_
              refine lv_i2l (v := (b.toInt64)) hx hb dX12_bill_64 rfl ?_
              refine lv_lmul hx hb dX12_bill_65 ?_
              refine lv_topl (fun w11 ew11 => ?_)
              have hG9 := hJQ (a.toInt).toNat (by omega)
              have hG8 := congrArg Int64.toInt (show w10 = la 12 70 (a.toInt).toNat from ew10)
              have hY0 := xr6_0
              unfold StY at hY0
              have hp9 := mul_b (x := (w10 : Int64).toInt) (y := b.toInt) (a1 := 0) (a2 := 0) (b1 := 129998) (b2 := 999) (by omega) (by omega) (by omega) (by omega) (by decide) (by decide)
              have hm9 : (w11 : Int64).toInt = (w10 : Int64).toInt * b.toInt := l_mul ew11 rfl (Int32.toInt_toInt64 _) (by omega) (by omega)
              rw [hG8] at hm9
              refine lv_iload_n hx hb dX12_bill_66 rfl (lv_at hl 1 rfl) ?_
              refine lv_iconst (v := 0) hx hb dX12_bill_67 (by decide) ?_
              have i_12_0 : 0 ≤ (iv 12 0).toInt ∧ (iv 12 0).toInt ≤ 3000 := hI.1 12 0
              have hFc := free_all hD hS hA
              refine va_callv (va_runV (As := [.int 1, .int v9, .long w11, .int a, .int 0]) (rest := []) ⟨hx, hb, hml, hown, ht⟩ (c_X12_add_w l dC dI s.heap.size h g ca iv lv fa la hI 1 v9 w11 a 0 (show 0 ≤ ((iv 12 67) : Int32).toInt ∧ ((iv 12 67) : Int32).toInt ≤ 39 from ⟨by omega, by omega⟩) ⟨by omega, by omega⟩) (kV 5 ht m_1676 m_1678 m_72 m_89 m_1679 rfl rfl hd_X12_add_v ⟨Nat.le_of_ble_eq_true rfl, Nat.le_of_ble_eq_true rfl⟩) (vW hP hK hD (rM_12 hK hP)) rfl rfl hl.1 rfl (lv_room (Nat.le_of_ble_eq_true rfl)) dX12_bill_68 ⟨Nat.le_of_ble_eq_true rfl, Nat.le_of_ble_eq_true rfl⟩) hS (fun q _ h => hFc q h) hFc (fun u t H1 locs ht9 hvm hr12 hB hz1 hk1 hS => ?_)
              obtain ⟨n13, n14, n15, n16, n17, n18, n19, n20, hn15, hn20, dn20, xr12_0, rfl⟩ := hr12
              have hn13 : ∀ j, inb (bA 12 68 j) (n13 j) := fun j => full_i _
              have hn14 : ∀ j, inb (bA 12 69 j) (n14 j) := fun j => full_i _
              have hn16 : ∀ j, inb (bA 12 72 j) (n16 j) := fun j => full_i _
              have hn17 : ∀ j, inb (bA 12 73 j) (n17 j) := fun j => full_i _
              have hn18 : ∀ j, inb (bA 12 74 j) (n18 j) := fun j => full_i _
              have dn20 : n20.toInt = ((iv 12 67) : Int32).toInt + 1 := dn20
              have hn20 : 0 ≤ n20.toInt ∧ n20.toInt ≤ 40 := hn20
              obtain ⟨hP, hD⟩ := hB
              rw [ht9] at hP
              generalize H1 = H at hP hS ⊢
              have hP : va_P (dC, dI) classes (WM h g ca (u2 iv 12 67 n20) lv (u2 (u2 (u2 (u2 (u2 (u2 fa 12 68 n13) 12 69 n14) 12 71 n15) 12 72 n16) 12 73 n17) 12 74 n18) (u2 la 12 70 n19)) H := hP
              have hD : va_D A (WM h g ca (u2 iv 12 67 n20) lv (u2 (u2 (u2 (u2 (u2 (u2 fa 12 68 n13) 12 69 n14) 12 71 n15) 12 72 n16) 12 73 n17) 12 74 n18) (u2 la 12 70 n19)) := (show va_D _ (WM h g ca (u2 iv 12 67 n20) lv (u2 (u2 (u2 (u2 (u2 (u2 fa 12 68 n13) 12 69 n14) 12 71 n15) 12 72 n16) 12 73 n17) 12 74 n18) (u2 la 12 70 n19)) from hD).weaken (fun _ _ _ h => hFc _ h)
              have : (1 : Int32).toInt = 1 := (by decide)
              have xr12_0 : ApY (((iv 12 67) : Int32).toInt).toNat (fa 12 68) (fa 12 69) (la 12 70) (fa 12 71) (fa 12 72) (fa 12 73) n13 n14 n19 n15 n16 n17 (1 : Int32).toInt (v9 : Int32).toInt (w11 : Int64).toInt (a : Int32).toInt ((iv 12 0) : Int32).toInt := xr12_0
              refine lv_aload_n hx hb dX12_bill_71 rfl (lv_at hl 0 rfl) ?_
              refine gM_12_67 hx hb ht hown hK hP m_1206 (v := n20) rfl dX12_bill_72 ?_
              refine lv_iconst (v := 1) hx hb dX12_bill_75 (by decide) ?_
              refine lv_isub hx hb dX12_bill_76 ?_
              refine lv_topi (fun v21 ev21 => ?_)
              have tv21 := z_sub ev21 (rfl : (n20).toInt = _) (by decide : (1 : Int32).toInt = 1) (by omega) (by omega)
              have hP9 : va_P (dC, dI) classes (WM h g ca (u2 iv 12 67 n20) lv (u2 (u2 (u2 (u2 (u2 (u2 fa 12 68 n13) 12 69 n14) 12 71 n15) 12 72 n16) 12 73 n17) 12 74 n18) (u2 la 12 70 n19)) H := hP
              have hD9 : va_D A (WM h g ca (u2 iv 12 67 n20) lv (u2 (u2 (u2 (u2 (u2 (u2 fa 12 68 n13) 12 69 n14) 12 71 n15) 12 72 n16) 12 73 n17) 12 74 n18) (u2 la 12 70 n19)) := hD
              exact W.iret (v := v21) hx hb hr (fun t ht9 hW => ⟨⟨v21, ((u2 iv 12 67 n20), lv, (u2 (u2 (u2 (u2 (u2 (u2 fa 12 68 n13) 12 69 n14) 12 71 n15) 12 72 n16) 12 73 n17) 12 74 n18), (u2 la 12 70 n19)), rfl, ⟨n13, n14, n15, n16, n17, n18, n19, n20, hn15, (show inb (0, 40) n20 from ⟨by omega, by omega⟩), (show (((v21 : Int32).toInt = -100001 ∧ ¬ (0 ≤ (a).toInt ∧ (a).toInt < (iv 12 67).toInt) ∧ SmY (fa 12 68) (fa 12 69) (la 12 70) (fa 12 71) (fa 12 72) (fa 12 73) n13 n14 n19 n15 n16 n17 ∧ (n20 : Int32).toInt = (iv 12 67).toInt) ∨ ((v21 : Int32).toInt = -100002 ∧ (0 ≤ (a).toInt ∧ (a).toInt < (iv 12 67).toInt) ∧ ¬ (0 ≤ (b).toInt ∧ (b).toInt ≤ 999) ∧ SmY (fa 12 68) (fa 12 69) (la 12 70) (fa 12 71) (fa 12 72) (fa 12 73) n13 n14 n19 n15 n16 n17 ∧ (n20 : Int32).toInt = (iv 12 67).toInt) ∨ ((v21 : Int32).toInt = -100003 ∧ (0 ≤ (a).toInt ∧ (a).toInt < (iv 12 67).toInt) ∧ (0 ≤ (b).toInt ∧ (b).toInt ≤ 999) ∧ ¬ StY (fa 12 68) (fa 12 73) ((a).toInt).toNat ∧ SmY (fa 12 68) (fa 12 69) (la 12 70) (fa 12 71) (fa 12 72) (fa 12 73) n13 n14 n19 n15 n16 n17 ∧ (n20 : Int32).toInt = (iv 12 67).toInt) ∨ ((v21 : Int32).toInt = -100004 ∧ (0 ≤ (a).toInt ∧ (a).toInt < (iv 12 67).toInt) ∧ (0 ≤ (b).toInt ∧ (b).toInt ≤ 999) ∧ StY (fa 12 68) (fa 12 73) ((a).toInt).toNat ∧ 40 ≤ (iv 12 67).toInt ∧ SmY (fa 12 68) (fa 12 69) (la 12 70) (fa 12 71) (fa 12 72) (fa 12 73) n13 n14 n19 n15 n16 n17 ∧ (n20 : Int32).toInt = (iv 12 67).toInt) ∨ ((0 ≤ (a).toInt ∧ (a).toInt < (iv 12 67).toInt) ∧ (0 ≤ (b).toInt ∧ (b).toInt ≤ 999) ∧ StY (fa 12 68) (fa 12 73) ((a).toInt).toNat ∧ (iv 12 67).toInt < 40 ∧ (v21 : Int32).toInt = (iv 12 67).toInt ∧ (n20 : Int32).toInt = (iv 12 67).toInt + 1 ∧ ApY ((iv 12 67).toInt).toNat (fa 12 68) (fa 12 69) (la 12 70) (fa 12 71) (fa 12 72) (fa 12 73) n13 n14 n19 n15 n16 n17 1 ((fa 12 69) ((a).toInt).toNat).toInt (((la 12 70) ((a).toInt).toNat).toInt * (b).toInt) (a).toInt (iv 12 0).toInt)) from (by have hb9 := congrArg Int32.toInt (show v9 = fa 12 69 (a.toInt).toNat from ev9); have hx9 := xr12_0; rw [hb9, hm9] at hx9; rw [show (1 : Int32).toInt = 1 from by decide] at hx9; exact Or.inr (Or.inr (Or.inr (Or.inr ⟨⟨by omega, by omega⟩, ⟨by omega, by omega⟩, (xr6_0.resolve_right (fun q => by omega)).2, by omega, by omega, by omega, hx9⟩))))), ⟨by omega, by omega⟩, rfl⟩, by rw [ht9]; exact hP9, hD9⟩, hS.F ht9⟩) hS.2.2 dX12_bill_77
            · have fc8 := z_eq (rfl : ((iv 12 67)).toInt = _) (by decide : (40 : Int32).toInt = 40) c8
              refine lv_ldc hx hb hown (ht _ m_1380) dX12_bill_46 ?_
              have : ((-100004) : Int32).toInt = (-100004) := (by decide)
              have hP9 : va_P (dC, dI) classes (WM h g ca (u2 iv 12 67 (iv 12 67)) lv (u2 (u2 (u2 (u2 (u2 (u2 fa 12 68 (fa 12 68)) 12 69 (fa 12 69)) 12 71 (fa 12 71)) 12 72 (fa 12 72)) 12 73 (fa 12 73)) 12 74 (fa 12 74)) (u2 la 12 70 (la 12 70))) s.heap := hP
              have hD9 : va_D A (WM h g ca (u2 iv 12 67 (iv 12 67)) lv (u2 (u2 (u2 (u2 (u2 (u2 fa 12 68 (fa 12 68)) 12 69 (fa 12 69)) 12 71 (fa 12 71)) 12 72 (fa 12 72)) 12 73 (fa 12 73)) 12 74 (fa 12 74)) (u2 la 12 70 (la 12 70))) := hD
              exact W.iret (v := (-100004)) hx hb hr (fun t ht9 hW => ⟨⟨(-100004), ((u2 iv 12 67 (iv 12 67)), lv, (u2 (u2 (u2 (u2 (u2 (u2 fa 12 68 (fa 12 68)) 12 69 (fa 12 69)) 12 71 (fa 12 71)) 12 72 (fa 12 72)) 12 73 (fa 12 73)) 12 74 (fa 12 74)), (u2 la 12 70 (la 12 70))), rfl, ⟨(fa 12 68), (fa 12 69), (fa 12 71), (fa 12 72), (fa 12 73), (fa 12 74), (la 12 70), (iv 12 67), (hI.2 12 71), (hI.1 12 67), (show ((((-100004) : Int32).toInt = -100001 ∧ ¬ (0 ≤ (a).toInt ∧ (a).toInt < (iv 12 67).toInt) ∧ SmY (fa 12 68) (fa 12 69) (la 12 70) (fa 12 71) (fa 12 72) (fa 12 73) (fa 12 68) (fa 12 69) (la 12 70) (fa 12 71) (fa 12 72) (fa 12 73) ∧ ((iv 12 67) : Int32).toInt = (iv 12 67).toInt) ∨ (((-100004) : Int32).toInt = -100002 ∧ (0 ≤ (a).toInt ∧ (a).toInt < (iv 12 67).toInt) ∧ ¬ (0 ≤ (b).toInt ∧ (b).toInt ≤ 999) ∧ SmY (fa 12 68) (fa 12 69) (la 12 70) (fa 12 71) (fa 12 72) (fa 12 73) (fa 12 68) (fa 12 69) (la 12 70) (fa 12 71) (fa 12 72) (fa 12 73) ∧ ((iv 12 67) : Int32).toInt = (iv 12 67).toInt) ∨ (((-100004) : Int32).toInt = -100003 ∧ (0 ≤ (a).toInt ∧ (a).toInt < (iv 12 67).toInt) ∧ (0 ≤ (b).toInt ∧ (b).toInt ≤ 999) ∧ ¬ StY (fa 12 68) (fa 12 73) ((a).toInt).toNat ∧ SmY (fa 12 68) (fa 12 69) (la 12 70) (fa 12 71) (fa 12 72) (fa 12 73) (fa 12 68) (fa 12 69) (la 12 70) (fa 12 71) (fa 12 72) (fa 12 73) ∧ ((iv 12 67) : Int32).toInt = (iv 12 67).toInt) ∨ (((-100004) : Int32).toInt = -100004 ∧ (0 ≤ (a).toInt ∧ (a).toInt < (iv 12 67).toInt) ∧ (0 ≤ (b).toInt ∧ (b).toInt ≤ 999) ∧ StY (fa 12 68) (fa 12 73) ((a).toInt).toNat ∧ 40 ≤ (iv 12 67).toInt ∧ SmY (fa 12 68) (fa 12 69) (la 12 70) (fa 12 71) (fa 12 72) (fa 12 73) (fa 12 68) (fa 12 69) (la 12 70) (fa 12 71) (fa 12 72) (fa 12 73) ∧ ((iv 12 67) : Int32).toInt = (iv 12 67).toInt) ∨ ((0 ≤ (a).toInt ∧ (a).toInt < (iv 12 67).toInt) ∧ (0 ≤ (b).toInt ∧ (b).toInt ≤ 999) ∧ StY (fa 12 68) (fa 12 73) ((a).toInt).toNat ∧ (iv 12 67).toInt < 40 ∧ ((-100004) : Int32).toInt = (iv 12 67).toInt ∧ ((iv 12 67) : Int32).toInt = (iv 12 67).toInt + 1 ∧ ApY ((iv 12 67).toInt).toNat (fa 12 68) (fa 12 69) (la 12 70) (fa 12 71) (fa 12 72) (fa 12 73) (fa 12 68) (fa 12 69) (la 12 70) (fa 12 71) (fa 12 72) (fa 12 73) 1 ((fa 12 69) ((a).toInt).toNat).toInt (((la 12 70) ((a).toInt).toNat).toInt * (b).toInt) (a).toInt (iv 12 0).toInt)) from Or.inr (Or.inr (Or.inr (Or.inl ⟨by omega, ⟨by omega, by omega⟩, ⟨by omega, by omega⟩, (xr6_0.resolve_right (fun q => by omega)).2, by omega, (fun j => ⟨rfl, rfl, rfl, rfl, rfl, rfl⟩), by omega⟩)))), ⟨by decide, by decide⟩, rfl⟩, by rw [ht9]; exact hP9, hD9⟩, hS.F ht9⟩) hS.2.2 dX12_bill_48
          · have fc7 := z_eq (rfl : (r6).toInt = _) (by decide : (0 : Int32).toInt = 0) c7
            refine lv_ldc hx hb hown (ht _ m_1374) dX12_bill_34 ?_
            have : ((-100003) : Int32).toInt = (-100003) := (by decide)
            have hP9 : va_P (dC, dI) classes (WM h g ca (u2 iv 12 67 (iv 12 67)) lv (u2 (u2 (u2 (u2 (u2 (u2 fa 12 68 (fa 12 68)) 12 69 (fa 12 69)) 12 71 (fa 12 71)) 12 72 (fa 12 72)) 12 73 (fa 12 73)) 12 74 (fa 12 74)) (u2 la 12 70 (la 12 70))) s.heap := hP
            have hD9 : va_D A (WM h g ca (u2 iv 12 67 (iv 12 67)) lv (u2 (u2 (u2 (u2 (u2 (u2 fa 12 68 (fa 12 68)) 12 69 (fa 12 69)) 12 71 (fa 12 71)) 12 72 (fa 12 72)) 12 73 (fa 12 73)) 12 74 (fa 12 74)) (u2 la 12 70 (la 12 70))) := hD
            exact W.iret (v := (-100003)) hx hb hr (fun t ht9 hW => ⟨⟨(-100003), ((u2 iv 12 67 (iv 12 67)), lv, (u2 (u2 (u2 (u2 (u2 (u2 fa 12 68 (fa 12 68)) 12 69 (fa 12 69)) 12 71 (fa 12 71)) 12 72 (fa 12 72)) 12 73 (fa 12 73)) 12 74 (fa 12 74)), (u2 la 12 70 (la 12 70))), rfl, ⟨(fa 12 68), (fa 12 69), (fa 12 71), (fa 12 72), (fa 12 73), (fa 12 74), (la 12 70), (iv 12 67), (hI.2 12 71), (hI.1 12 67), (show ((((-100003) : Int32).toInt = -100001 ∧ ¬ (0 ≤ (a).toInt ∧ (a).toInt < (iv 12 67).toInt) ∧ SmY (fa 12 68) (fa 12 69) (la 12 70) (fa 12 71) (fa 12 72) (fa 12 73) (fa 12 68) (fa 12 69) (la 12 70) (fa 12 71) (fa 12 72) (fa 12 73) ∧ ((iv 12 67) : Int32).toInt = (iv 12 67).toInt) ∨ (((-100003) : Int32).toInt = -100002 ∧ (0 ≤ (a).toInt ∧ (a).toInt < (iv 12 67).toInt) ∧ ¬ (0 ≤ (b).toInt ∧ (b).toInt ≤ 999) ∧ SmY (fa 12 68) (fa 12 69) (la 12 70) (fa 12 71) (fa 12 72) (fa 12 73) (fa 12 68) (fa 12 69) (la 12 70) (fa 12 71) (fa 12 72) (fa 12 73) ∧ ((iv 12 67) : Int32).toInt = (iv 12 67).toInt) ∨ (((-100003) : Int32).toInt = -100003 ∧ (0 ≤ (a).toInt ∧ (a).toInt < (iv 12 67).toInt) ∧ (0 ≤ (b).toInt ∧ (b).toInt ≤ 999) ∧ ¬ StY (fa 12 68) (fa 12 73) ((a).toInt).toNat ∧ SmY (fa 12 68) (fa 12 69) (la 12 70) (fa 12 71) (fa 12 72) (fa 12 73) (fa 12 68) (fa 12 69) (la 12 70) (fa 12 71) (fa 12 72) (fa 12 73) ∧ ((iv 12 67) : Int32).toInt = (iv 12 67).toInt) ∨ (((-100003) : Int32).toInt = -100004 ∧ (0 ≤ (a).toInt ∧ (a).toInt < (iv 12 67).toInt) ∧ (0 ≤ (b).toInt ∧ (b).toInt ≤ 999) ∧ StY (fa 12 68) (fa 12 73) ((a).toInt).toNat ∧ 40 ≤ (iv 12 67).toInt ∧ SmY (fa 12 68) (fa 12 69) (la 12 70) (fa 12 71) (fa 12 72) (fa 12 73) (fa 12 68) (fa 12 69) (la 12 70) (fa 12 71) (fa 12 72) (fa 12 73) ∧ ((iv 12 67) : Int32).toInt = (iv 12 67).toInt) ∨ ((0 ≤ (a).toInt ∧ (a).toInt < (iv 12 67).toInt) ∧ (0 ≤ (b).toInt ∧ (b).toInt ≤ 999) ∧ StY (fa 12 68) (fa 12 73) ((a).toInt).toNat ∧ (iv 12 67).toInt < 40 ∧ ((-100003) : Int32).toInt = (iv 12 67).toInt ∧ ((iv 12 67) : Int32).toInt = (iv 12 67).toInt + 1 ∧ ApY ((iv 12 67).toInt).toNat (fa 12 68) (fa 12 69) (la 12 70) (fa 12 71) (fa 12 72) (fa 12 73) (fa 12 68) (fa 12 69) (la 12 70) (fa 12 71) (fa 12 72) (fa 12 73) 1 ((fa 12 69) ((a).toInt).toNat).toInt (((la 12 70) ((a).toInt).toNat).toInt * (b).toInt) (a).toInt (iv 12 0).toInt)) from Or.inr (Or.inr (Or.inl ⟨by omega, ⟨by omega, by omega⟩, ⟨by omega, by omega⟩, (xr6_0.resolve_left (fun q => by omega)).2, (fun j => ⟨rfl, rfl, rfl, rfl, rfl, rfl⟩), by omega⟩))), ⟨by decide, by decide⟩, rfl⟩, by rw [ht9]; exact hP9, hD9⟩, hS.F ht9⟩) hS.2.2 dX12_bill_36
        · exact absurd c5 (by decide)
      · skip
        refine lv_if_ne (tgt := 26) hx hb dX12_bill_20 (by decide) (fun c22 => ?_) (fun c22 => ?_)
        · exact absurd rfl c22
        · skip
          refine lv_ldc hx hb hown (ht _ m_1373) dX12_bill_23 ?_
          have : ((-100002) : Int32).toInt = (-100002) := (by decide)
          have hP9 : va_P (dC, dI) classes (WM h g ca (u2 iv 12 67 (iv 12 67)) lv (u2 (u2 (u2 (u2 (u2 (u2 fa 12 68 (fa 12 68)) 12 69 (fa 12 69)) 12 71 (fa 12 71)) 12 72 (fa 12 72)) 12 73 (fa 12 73)) 12 74 (fa 12 74)) (u2 la 12 70 (la 12 70))) s.heap := hP
          have hD9 : va_D A (WM h g ca (u2 iv 12 67 (iv 12 67)) lv (u2 (u2 (u2 (u2 (u2 (u2 fa 12 68 (fa 12 68)) 12 69 (fa 12 69)) 12 71 (fa 12 71)) 12 72 (fa 12 72)) 12 73 (fa 12 73)) 12 74 (fa 12 74)) (u2 la 12 70 (la 12 70))) := hD
          exact W.iret (v := (-100002)) hx hb hr (fun t ht9 hW => ⟨⟨(-100002), ((u2 iv 12 67 (iv 12 67)), lv, (u2 (u2 (u2 (u2 (u2 (u2 fa 12 68 (fa 12 68)) 12 69 (fa 12 69)) 12 71 (fa 12 71)) 12 72 (fa 12 72)) 12 73 (fa 12 73)) 12 74 (fa 12 74)), (u2 la 12 70 (la 12 70))), rfl, ⟨(fa 12 68), (fa 12 69), (fa 12 71), (fa 12 72), (fa 12 73), (fa 12 74), (la 12 70), (iv 12 67), (hI.2 12 71), (hI.1 12 67), (show ((((-100002) : Int32).toInt = -100001 ∧ ¬ (0 ≤ (a).toInt ∧ (a).toInt < (iv 12 67).toInt) ∧ SmY (fa 12 68) (fa 12 69) (la 12 70) (fa 12 71) (fa 12 72) (fa 12 73) (fa 12 68) (fa 12 69) (la 12 70) (fa 12 71) (fa 12 72) (fa 12 73) ∧ ((iv 12 67) : Int32).toInt = (iv 12 67).toInt) ∨ (((-100002) : Int32).toInt = -100002 ∧ (0 ≤ (a).toInt ∧ (a).toInt < (iv 12 67).toInt) ∧ ¬ (0 ≤ (b).toInt ∧ (b).toInt ≤ 999) ∧ SmY (fa 12 68) (fa 12 69) (la 12 70) (fa 12 71) (fa 12 72) (fa 12 73) (fa 12 68) (fa 12 69) (la 12 70) (fa 12 71) (fa 12 72) (fa 12 73) ∧ ((iv 12 67) : Int32).toInt = (iv 12 67).toInt) ∨ (((-100002) : Int32).toInt = -100003 ∧ (0 ≤ (a).toInt ∧ (a).toInt < (iv 12 67).toInt) ∧ (0 ≤ (b).toInt ∧ (b).toInt ≤ 999) ∧ ¬ StY (fa 12 68) (fa 12 73) ((a).toInt).toNat ∧ SmY (fa 12 68) (fa 12 69) (la 12 70) (fa 12 71) (fa 12 72) (fa 12 73) (fa 12 68) (fa 12 69) (la 12 70) (fa 12 71) (fa 12 72) (fa 12 73) ∧ ((iv 12 67) : Int32).toInt = (iv 12 67).toInt) ∨ (((-100002) : Int32).toInt = -100004 ∧ (0 ≤ (a).toInt ∧ (a).toInt < (iv 12 67).toInt) ∧ (0 ≤ (b).toInt ∧ (b).toInt ≤ 999) ∧ StY (fa 12 68) (fa 12 73) ((a).toInt).toNat ∧ 40 ≤ (iv 12 67).toInt ∧ SmY (fa 12 68) (fa 12 69) (la 12 70) (fa 12 71) (fa 12 72) (fa 12 73) (fa 12 68) (fa 12 69) (la 12 70) (fa 12 71) (fa 12 72) (fa 12 73) ∧ ((iv 12 67) : Int32).toInt = (iv 12 67).toInt) ∨ ((0 ≤ (a).toInt ∧ (a).toInt < (iv 12 67).toInt) ∧ (0 ≤ (b).toInt ∧ (b).toInt ≤ 999) ∧ StY (fa 12 68) (fa 12 73) ((a).toInt).toNat ∧ (iv 12 67).toInt < 40 ∧ ((-100002) : Int32).toInt = (iv 12 67).toInt ∧ ((iv 12 67) : Int32).toInt = (iv 12 67).toInt + 1 ∧ ApY ((iv 12 67).toInt).toNat (fa 12 68) (fa 12 69) (la 12 70) (fa 12 71) (fa 12 72) (fa 12 73) (fa 12 68) (fa 12 69) (la 12 70) (fa 12 71) (fa 12 72) (fa 12 73) 1 ((fa 12 69) ((a).toInt).toNat).toInt (((la 12 70) ((a).toInt).toNat).toInt * (b).toInt) (a).toInt (iv 12 0).toInt)) from Or.inr (Or.inl ⟨by omega, ⟨by omega, by omega⟩, by omega, (fun j => ⟨rfl, rfl, rfl, rfl, rfl, rfl⟩), by omega⟩)), ⟨by decide, by decide⟩, rfl⟩, by rw [ht9]; exact hP9, hD9⟩, hS.F ht9⟩) hS.2.2 dX12_bill_25
    · exact absurd rfl c3
