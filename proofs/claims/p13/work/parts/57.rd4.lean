/-! ===== rd4 ===== -/
set_option maxHeartbeats 4000000 in
set_option maxRecDepth 100000 in
/-- X1_startDraft -/
theorem c_X1_startDraft_r (l : Launch) (dC : Nat → ClassId) (dI : Nat → Nat → Nat) (sz : Nat) (h : Nat) (g : Nat → Nat → Nat) (ca : Nat → Nat → ClassId) (iv : Nat → Nat → Int32) (lv : Nat → Nat → Int64) (fa : Nat → Nat → Nat → Int32) (la : Nat → Nat → Nat → Int64) (hI : IX iv fa) : Met l yX1_startDraft (wc yX1_startDraft cX1_startDraft 1 none) ({ frames := 0, cells := 0, slots := 0, locals := 0 } : Room) (pW (dC, dI) classes (WX h g ca iv lv fa la) (TX ca) sz [.ref (g 11 3)]) (va_Qv (fun (u : SS) => ∃ (ni_1_8 : Int32), inb (bI 1 8) ni_1_8 ∧ ((ni_1_8).toInt = 0) ∧ u = ((u2 iv 1 8 ni_1_8), lv, fa, la)) (bX (dC, dI) h g ca (va_A (WX h g ca iv lv fa la) sz)) (va_A (WX h g ca iv lv fa la) sz)) 0 0 (va_A (WX h g ca iv lv fa la) sz) := by
  refine Met.ofW (cc := cX1_startDraft) (maxL := 1) (ret := none) (by decide) rfl ?_
  intro p e s m args below meth c s₁ B hml hv
  obtain ⟨rfl, hsz, hP, hK, hD0⟩ := hv
  have hx := B.exec
  have hb := B.bytes
  have hr := B.returns
  have ht := tb_tl (atoms_spec (ws := wc yX1_startDraft cX1_startDraft 1 none) B.pre)
  have hown : s.vm.findClass RX1 = some m.cls := findClass_of_methodNamed B.named
  have hlocks := B.notSynchronized
  subst hsz
  have hD := hD0.self (sz := s.heap.size)
  generalize hAe : va_A (WX h g ca iv lv fa la) s.heap.size = A at hD ⊢
  have hA : ∀ q : Nat, s.heap.size ≤ q → A q := fun q h => by rw [← hAe]; exact Or.inr h
  have hS : va_S A s.heap s.heap [] := va_S.rf
  have hl := lv_entry [.ref (g 11 3)] (n := 1) (Nat.le_of_ble_eq_true rfl)
  rw [lg_entry_eq]
  generalize (lg_sl [.ref (g 11 3)] ++ List.replicate (1 - (lg_sl [.ref (g 11 3)]).length) Slot.unset).toArray = ls at hl ⊢
  have hl : lv_has ls 1 [(0, .ref (g 11 3))] := hl
  refine lv_aload_n hx hb dX1_startDraft_0 rfl (lv_at hl 0 rfl) ?_
  refine lv_iconst (v := 0) hx hb dX1_startDraft_1 (by decide) ?_
  refine pX_1_8 (v := 0) hx hb ht hown hK hP hD hS m_199 dX1_startDraft_2 (fun H locs hP hD hS => ?_)
  have : (0 : Int32).toInt = 0 := (by decide)
  have hP9 : va_P (dC, dI) classes (WX h g ca (u2 iv 1 8 0) lv fa la) H := hP
  have hD9 : va_D A (WX h g ca (u2 iv 1 8 0) lv fa la) := hD
  exact W.vret hx hb hr (fun t ht9 hW => ⟨⟨((u2 iv 1 8 0), lv, fa, la), rfl, ⟨0, (show inb (0, 12) 0 from ⟨by decide, by decide⟩), (show (0 : Int32).toInt = 0 from by omega), rfl⟩, by rw [ht9]; exact hP9, hD9⟩, hS.F ht9⟩) hS.2.2 dX1_startDraft_5
set_option maxHeartbeats 4000000 in
set_option maxRecDepth 100000 in
/-- X1_draft -/
theorem c_X1_draft_r (l : Launch) (dC : Nat → ClassId) (dI : Nat → Nat → Nat) (sz : Nat) (h : Nat) (g : Nat → Nat → Nat) (ca : Nat → Nat → ClassId) (iv : Nat → Nat → Int32) (lv : Nat → Nat → Int64) (fa : Nat → Nat → Nat → Int32) (la : Nat → Nat → Nat → Int64) (hI : IX iv fa) (a : Int32) (b : Int32) (d : Int32) (q_1_7 : 0 ≤ (iv 1 7).toInt ∧ (iv 1 7).toInt ≤ 7) (q_1_8 : 0 ≤ (iv 1 8).toInt ∧ (iv 1 8).toInt ≤ 11) : Met l yX1_draft (wc yX1_draft cX1_draft 5 none) ({ frames := 0, cells := 0, slots := 0, locals := 0 } : Room) (pW (dC, dI) classes (WX h g ca iv lv fa la) (TX ca) sz [.ref (g 11 3), .int a, .int b, .int d]) (va_Qv (fun (u : SS) => ∃ (na_1_2 : Nat → Int32) (na_1_3 : Nat → Int32) (na_1_4 : Nat → Int32) (ni_1_8 : Int32), inb (bI 1 8) ni_1_8 ∧ ni_1_8.toInt = (iv 1 8).toInt + 1 ∧ (∀ j : Nat, (j : Int) < 12 * (iv 1 7).toInt + (iv 1 8).toInt → na_1_2 j = (fa 1 2) j ∧ na_1_3 j = (fa 1 3) j ∧ na_1_4 j = (fa 1 4) j) ∧ (na_1_2 (12 * ((iv 1 7).toInt).toNat + ((iv 1 8).toInt).toNat) = a) ∧ (na_1_3 (12 * ((iv 1 7).toInt).toNat + ((iv 1 8).toInt).toNat) = b) ∧ (na_1_4 (12 * ((iv 1 7).toInt).toNat + ((iv 1 8).toInt).toNat) = d) ∧ ((ni_1_8).toInt = (iv 1 8).toInt + 1) ∧ u = ((u2 iv 1 8 ni_1_8), lv, (u2 (u2 (u2 fa 1 2 na_1_2) 1 3 na_1_3) 1 4 na_1_4), la)) (bX (dC, dI) h g ca (va_A (WX h g ca iv lv fa la) sz)) (va_A (WX h g ca iv lv fa la) sz)) 0 0 (va_A (WX h g ca iv lv fa la) sz) := by
  refine Met.ofW (cc := cX1_draft) (maxL := 5) (ret := none) (by decide) rfl ?_
  intro p e s m args below meth c s₁ B hml hv
  obtain ⟨rfl, hsz, hP, hK, hD0⟩ := hv
  have hx := B.exec
  have hb := B.bytes
  have hr := B.returns
  have ht := tb_tl (atoms_spec (ws := wc yX1_draft cX1_draft 5 none) B.pre)
  have hown : s.vm.findClass RX1 = some m.cls := findClass_of_methodNamed B.named
  have hlocks := B.notSynchronized
  subst hsz
  have hD := hD0.self (sz := s.heap.size)
  generalize hAe : va_A (WX h g ca iv lv fa la) s.heap.size = A at hD ⊢
  have hA : ∀ q : Nat, s.heap.size ≤ q → A q := fun q h => by rw [← hAe]; exact Or.inr h
  have hS : va_S A s.heap s.heap [] := va_S.rf
  have hl := lv_entry [.ref (g 11 3), .int a, .int b, .int d] (n := 5) (Nat.le_of_ble_eq_true rfl)
  rw [lg_entry_eq]
  generalize (lg_sl [.ref (g 11 3), .int a, .int b, .int d] ++ List.replicate (5 - (lg_sl [.ref (g 11 3), .int a, .int b, .int d]).length) Slot.unset).toArray = ls at hl ⊢
  have hl : lv_has ls 5 [(0, .ref (g 11 3)), (1, .int a), (2, .int b), (3, .int d)] := hl
  refine lv_aload_n hx hb dX1_draft_0 rfl (lv_at hl 0 rfl) ?_
  have i_1_7 : 0 ≤ (iv 1 7).toInt ∧ (iv 1 7).toInt ≤ 8 := hI.1 1 7
  refine gX_1_7 hx hb ht hown hK hP m_196 (v := (iv 1 7)) rfl dX1_draft_1 ?_
  refine lv_bipush (v := 8) hx hb dX1_draft_4 (by decide) ?_
  refine lv_icmp_ge (tgt := 66) hx hb dX1_draft_6 (by decide) (fun c1 => ?_) (fun c1 => ?_)
  · have fc1 := z_le (by decide : (8 : Int32).toInt = 8) (rfl : ((iv 1 7)).toInt = _) c1; exfalso; omega
  · skip
    refine lv_aload_n hx hb dX1_draft_9 rfl (lv_at hl 0 rfl) ?_
    have i_1_8 : 0 ≤ (iv 1 8).toInt ∧ (iv 1 8).toInt ≤ 12 := hI.1 1 8
    refine gX_1_8 hx hb ht hown hK hP m_199 (v := (iv 1 8)) rfl dX1_draft_10 ?_
    refine lv_bipush (v := 12) hx hb dX1_draft_13 (by decide) ?_
    refine lv_icmp_ge (tgt := 66) hx hb dX1_draft_15 (by decide) (fun c2 => ?_) (fun c2 => ?_)
    · have fc2 := z_le (by decide : (12 : Int32).toInt = 12) (rfl : ((iv 1 8)).toInt = _) c2; exfalso; omega
    · skip
      refine lv_aload_n hx hb dX1_draft_18 rfl (lv_at hl 0 rfl) ?_
      refine gX_1_7 hx hb ht hown hK hP m_196 (v := (iv 1 7)) rfl dX1_draft_19 ?_
      refine lv_bipush (v := 12) hx hb dX1_draft_22 (by decide) ?_
      refine lv_imul hx hb dX1_draft_24 ?_
      refine lv_topi (fun v3 ev3 => ?_)
      have tv3 := z_mul ev3 (rfl : ((iv 1 7)).toInt = _) (by decide : (12 : Int32).toInt = 12) (by omega) (by omega)
      refine lv_aload_n hx hb dX1_draft_25 rfl (lv_at hl 0 rfl) ?_
      refine gX_1_8 hx hb ht hown hK hP m_199 (v := (iv 1 8)) rfl dX1_draft_26 ?_
      refine lv_iadd hx hb dX1_draft_29 ?_
      refine lv_topi (fun v4 ev4 => ?_)
      have tv4 := z_add ev4 (rfl : (v3).toInt = _) (rfl : ((iv 1 8)).toInt = _) (by omega) (by omega)
      refine lv_istore (lv' := [(4, .int v4), (0, .ref (g 11 3)), (1, .int a), (2, .int b), (3, .int d)]) hx hb dX1_draft_30 hl (by decide) rfl (fun ls hl => ?_)
      refine lv_aload_n hx hb dX1_draft_32 rfl (lv_at hl 1 rfl) ?_
      refine gX_1_2 hx hb ht hown hK hP m_191 dX1_draft_33 ?_
      refine lv_iload hx hb dX1_draft_36 (lv_at hl 0 rfl) ?_
      refine lv_iload_n hx hb dX1_draft_38 rfl (lv_at hl 2 rfl) ?_
      refine tX_1_2 hx hb hK hP hD hS (f0 := (fa 1 2)) rfl (i := v4) (x := a) (vp_in_iff.mpr ⟨by omega, by omega⟩) dX1_draft_39 (fun f5 ef5 H locs hP hD hS => ?_)
      have hf5 : ∀ j, inb (bA 1 2 j) (f5 j) := fun j => full_i _
      refine lv_aload_n hx hb dX1_draft_40 rfl (lv_at hl 1 rfl) ?_
      refine gX_1_3 hx hb ht hown hK hP m_192 dX1_draft_41 ?_
      refine lv_iload hx hb dX1_draft_44 (lv_at hl 0 rfl) ?_
      refine lv_iload_n hx hb dX1_draft_46 rfl (lv_at hl 3 rfl) ?_
      refine tX_1_3 hx hb hK hP hD hS (f0 := (fa 1 3)) rfl (i := v4) (x := b) (vp_in_iff.mpr ⟨by omega, by omega⟩) dX1_draft_47 (fun f6 ef6 H locs hP hD hS => ?_)
      have hf6 : ∀ j, inb (bA 1 3 j) (f6 j) := fun j => full_i _
      refine lv_aload_n hx hb dX1_draft_48 rfl (lv_at hl 1 rfl) ?_
      refine gX_1_4 hx hb ht hown hK hP m_193 dX1_draft_49 ?_
      refine lv_iload hx hb dX1_draft_52 (lv_at hl 0 rfl) ?_
      refine lv_iload_n hx hb dX1_draft_54 rfl (lv_at hl 4 rfl) ?_
      refine tX_1_4 hx hb hK hP hD hS (f0 := (fa 1 4)) rfl (i := v4) (x := d) (vp_in_iff.mpr ⟨by omega, by omega⟩) dX1_draft_55 (fun f7 ef7 H locs hP hD hS => ?_)
      have hf7 : ∀ j, inb (bA 1 4 j) (f7 j) := fun j => full_i _
      refine lv_aload_n hx hb dX1_draft_56 rfl (lv_at hl 1 rfl) ?_
      refine lv_dup hx hb dX1_draft_57 rfl ?_
      refine gX_1_8 hx hb ht hown hK hP m_199 (v := (iv 1 8)) rfl dX1_draft_58 ?_
      refine lv_iconst (v := 1) hx hb dX1_draft_61 (by decide) ?_
      refine lv_iadd hx hb dX1_draft_62 ?_
      refine lv_topi (fun v8 ev8 => ?_)
      have tv8 := z_add ev8 (rfl : ((iv 1 8)).toInt = _) (by decide : (1 : Int32).toInt = 1) (by omega) (by omega)
      refine pX_1_8 (v := v8) hx hb ht hown hK hP hD hS m_199 dX1_draft_63 (fun H locs hP hD hS => ?_)
      have hP9 : va_P (dC, dI) classes (WX h g ca (u2 iv 1 8 v8) lv (u2 (u2 (u2 fa 1 2 f5) 1 3 f6) 1 4 f7) la) H := hP
      have hD9 : va_D A (WX h g ca (u2 iv 1 8 v8) lv (u2 (u2 (u2 fa 1 2 f5) 1 3 f6) 1 4 f7) la) := hD
      exact W.vret hx hb hr (fun t ht9 hW => ⟨⟨((u2 iv 1 8 v8), lv, (u2 (u2 (u2 fa 1 2 f5) 1 3 f6) 1 4 f7), la), rfl, ⟨f5, f6, f7, v8, (show inb (0, 12) v8 from ⟨by omega, by omega⟩), (by omega), (show ∀ j : Nat, (j : Int) < 12 * (iv 1 7).toInt + (iv 1 8).toInt → f5 j = (fa 1 2) j ∧ f6 j = (fa 1 3) j ∧ f7 j = (fa 1 4) j from fun j hj => ⟨(by rw [ef5, upd_ne (by show j ≠ (v4 : Int32).toInt.toNat; omega)]), (by rw [ef6, upd_ne (by show j ≠ (v4 : Int32).toInt.toNat; omega)]), (by rw [ef7, upd_ne (by show j ≠ (v4 : Int32).toInt.toNat; omega)])⟩), (show f5 (12 * ((iv 1 7).toInt).toNat + ((iv 1 8).toInt).toNat) = a from (by rw [ef5, show (12 * ((iv 1 7).toInt).toNat + ((iv 1 8).toInt).toNat) = (v4 : Int32).toNatClampNeg from (by show _ = (v4 : Int32).toInt.toNat; omega)]; exact upd_eq)), (show f6 (12 * ((iv 1 7).toInt).toNat + ((iv 1 8).toInt).toNat) = b from (by rw [ef6, show (12 * ((iv 1 7).toInt).toNat + ((iv 1 8).toInt).toNat) = (v4 : Int32).toNatClampNeg from (by show _ = (v4 : Int32).toInt.toNat; omega)]; exact upd_eq)), (show f7 (12 * ((iv 1 7).toInt).toNat + ((iv 1 8).toInt).toNat) = d from (by rw [ef7, show (12 * ((iv 1 7).toInt).toNat + ((iv 1 8).toInt).toNat) = (v4 : Int32).toNatClampNeg from (by show _ = (v4 : Int32).toInt.toNat; omega)]; exact upd_eq)), (show (v8 : Int32).toInt = (iv 1 8).toInt + 1 from by omega), rfl⟩, by rw [ht9]; exact hP9, hD9⟩, hS.F ht9⟩) hS.2.2 dX1_draft_66
set_option maxHeartbeats 4000000 in
set_option maxRecDepth 100000 in
/-- X1_draftWord -/
theorem c_X1_draftWord_r (l : Launch) (dC : Nat → ClassId) (dI : Nat → Nat → Nat) (sz : Nat) (h : Nat) (g : Nat → Nat → Nat) (ca : Nat → Nat → ClassId) (iv : Nat → Nat → Int32) (lv : Nat → Nat → Int64) (fa : Nat → Nat → Nat → Int32) (la : Nat → Nat → Nat → Int64) (hI : IX iv fa) (a : Int32) (b : Int32) (q_1_7 : 0 ≤ (iv 1 7).toInt ∧ (iv 1 7).toInt ≤ 7) (q_1_8 : 0 ≤ (iv 1 8).toInt ∧ (iv 1 8).toInt ≤ 11) (h_a : 0 ≤ a.toInt ∧ a.toInt ≤ 200) (h_b : 0 ≤ b.toInt ∧ b.toInt ≤ 200) : Met l yX1_draftWord (wc yX1_draftWord cX1_draftWord 6 none) ({ frames := 0, cells := 0, slots := 0, locals := 0 } : Room) (pW (dC, dI) classes (WX h g ca iv lv fa la) (TX ca) sz [.ref (g 11 3), .ref (g 8 1), .int a, .int b]) (va_Qv (fun (u : SS) => ∃ (na_1_5 : Nat → Int32), (∀ j : Nat, (j : Int) < (8 * (12 * (iv 1 7).toInt + (iv 1 8).toInt)) → na_1_5 j = (fa 1 5) j) ∧ (∀ j : Nat, (j : Int) < 8 → ((j : Int) < b.toInt - a.toInt → na_1_5 ((8 * (12 * ((iv 1 7).toInt).toNat + ((iv 1 8).toInt).toNat)) + j) = vp_nar .byte ((fa 8 1) ((a.toInt).toNat + j))) ∧ (b.toInt - a.toInt ≤ (j : Int) → na_1_5 ((8 * (12 * ((iv 1 7).toInt).toNat + ((iv 1 8).toInt).toNat)) + j) = 0)) ∧ u = (iv, lv, (u2 fa 1 5 na_1_5), la)) (bX (dC, dI) h g ca (va_A (WX h g ca iv lv fa la) sz)) (va_A (WX h g ca iv lv fa la) sz)) 0 0 (va_A (WX h g ca iv lv fa la) sz) := by
  refine Met.ofW (cc := cX1_draftWord) (maxL := 6) (ret := none) (by decide) rfl ?_
  intro p e s m args below meth c s₁ B hml hv
  obtain ⟨rfl, hsz, hP, hK, hD0⟩ := hv
  have hx := B.exec
  have hb := B.bytes
  have hr := B.returns
  have ht := tb_tl (atoms_spec (ws := wc yX1_draftWord cX1_draftWord 6 none) B.pre)
  have hown : s.vm.findClass RX1 = some m.cls := findClass_of_methodNamed B.named
  have hlocks := B.notSynchronized
  subst hsz
  have hD := hD0.self (sz := s.heap.size)
  generalize hAe : va_A (WX h g ca iv lv fa la) s.heap.size = A at hD ⊢
  have hA : ∀ q : Nat, s.heap.size ≤ q → A q := fun q h => by rw [← hAe]; exact Or.inr h
  have hS : va_S A s.heap s.heap [] := va_S.rf
  have hl := lv_entry [.ref (g 11 3), .ref (g 8 1), .int a, .int b] (n := 6) (Nat.le_of_ble_eq_true rfl)
  rw [lg_entry_eq]
  generalize (lg_sl [.ref (g 11 3), .ref (g 8 1), .int a, .int b] ++ List.replicate (6 - (lg_sl [.ref (g 11 3), .ref (g 8 1), .int a, .int b]).length) Slot.unset).toArray = ls at hl ⊢
  have hl : lv_has ls 6 [(0, .ref (g 11 3)), (1, .ref (g 8 1)), (2, .int a), (3, .int b)] := hl
  refine lv_aload_n hx hb dX1_draftWord_0 rfl (lv_at hl 0 rfl) ?_
  have i_1_7 : 0 ≤ (iv 1 7).toInt ∧ (iv 1 7).toInt ≤ 8 := hI.1 1 7
  refine gX_1_7 hx hb ht hown hK hP m_196 (v := (iv 1 7)) rfl dX1_draftWord_1 ?_
  refine lv_bipush (v := 8) hx hb dX1_draftWord_4 (by decide) ?_
  refine lv_icmp_ge (tgt := 79) hx hb dX1_draftWord_6 (by decide) (fun c1 => ?_) (fun c1 => ?_)
  · have fc1 := z_le (by decide : (8 : Int32).toInt = 8) (rfl : ((iv 1 7)).toInt = _) c1; exfalso; omega
  · skip
    refine lv_aload_n hx hb dX1_draftWord_9 rfl (lv_at hl 0 rfl) ?_
    have i_1_8 : 0 ≤ (iv 1 8).toInt ∧ (iv 1 8).toInt ≤ 12 := hI.1 1 8
    refine gX_1_8 hx hb ht hown hK hP m_199 (v := (iv 1 8)) rfl dX1_draftWord_10 ?_
    refine lv_bipush (v := 12) hx hb dX1_draftWord_13 (by decide) ?_
    refine lv_icmp_ge (tgt := 79) hx hb dX1_draftWord_15 (by decide) (fun c2 => ?_) (fun c2 => ?_)
    · have fc2 := z_le (by decide : (12 : Int32).toInt = 12) (rfl : ((iv 1 8)).toInt = _) c2; exfalso; omega
    · skip
      refine lv_aload_n hx hb dX1_draftWord_18 rfl (lv_at hl 0 rfl) ?_
      refine gX_1_7 hx hb ht hown hK hP m_196 (v := (iv 1 7)) rfl dX1_draftWord_19 ?_
      refine lv_bipush (v := 12) hx hb dX1_draftWord_22 (by decide) ?_
      refine lv_imul hx hb dX1_draftWord_24 ?_
      refine lv_topi (fun v3 ev3 => ?_)
      have tv3 := z_mul ev3 (rfl : ((iv 1 7)).toInt = _) (by decide : (12 : Int32).toInt = 12) (by omega) (by omega)
      refine lv_aload_n hx hb dX1_draftWord_25 rfl (lv_at hl 0 rfl) ?_
      refine gX_1_8 hx hb ht hown hK hP m_199 (v := (iv 1 8)) rfl dX1_draftWord_26 ?_
      refine lv_iadd hx hb dX1_draftWord_29 ?_
      refine lv_topi (fun v4 ev4 => ?_)
      have tv4 := z_add ev4 (rfl : (v3).toInt = _) (rfl : ((iv 1 8)).toInt = _) (by omega) (by omega)
      refine lv_bipush (v := 8) hx hb dX1_draftWord_30 (by decide) ?_
      refine lv_imul hx hb dX1_draftWord_32 ?_
      refine lv_topi (fun v5 ev5 => ?_)
      have tv5 := z_mul ev5 (rfl : (v4).toInt = _) (by decide : (8 : Int32).toInt = 8) (by omega) (by omega)
      refine lv_istore (lv' := [(4, .int v5), (0, .ref (g 11 3)), (1, .ref (g 8 1)), (2, .int a), (3, .int b)]) hx hb dX1_draftWord_33 hl (by decide) rfl (fun ls hl => ?_)
      refine lv_iconst (v := 0) hx hb dX1_draftWord_35 (by decide) ?_
      refine lv_istore (lv' := [(5, .int 0), (4, .int v5), (0, .ref (g 11 3)), (1, .ref (g 8 1)), (2, .int a), (3, .int b)]) hx hb dX1_draftWord_36 hl (by decide) rfl (fun ls hl => ?_)
      have lp106 : ∀ (nn106 : Nat) (x105_5 : Int32) (w105_a_1_5 : Nat → Int32), 0 ≤ x105_5.toInt ∧ x105_5.toInt ≤ 8 → (∀ j, inb (bA 1 5 j) (w105_a_1_5 j)) → (∀ j : Nat, (j : Int) < (v5 : Int32).toInt → w105_a_1_5 j = (fa 1 5) j) → (∀ j : Nat, (j : Int) < (x105_5 : Int32).toInt → ((j : Int) < (b).toInt - (a).toInt → w105_a_1_5 (((v5 : Int32).toInt).toNat + j) = vp_nar .byte ((fa 8 1) (((a).toInt).toNat + j))) ∧ ((b).toInt - (a).toInt ≤ (j : Int) → w105_a_1_5 (((v5 : Int32).toInt).toNat + j) = 0)) → 8 - x105_5.toInt < (nn106 : Int) → ∀ (H : Heap) (locs : List Loc), ∀ (ls : Array Slot), va_P (dC, dI) classes (WX h g ca iv lv (u2 fa 1 5 w105_a_1_5) la) H → va_D A (WX h g ca iv lv (u2 fa 1 5 w105_a_1_5) la) → va_S A s.heap H locs → lv_has ls 6 [(5, .int x105_5), (4, .int v5), (0, .ref (g 11 3)), (1, .ref (g 8 1)), (2, .int a), (3, .int b)] → W p l e ({ frames := 0, cells := 0, slots := 0, locals := 0 } : Room) s m ([.ref (g 11 3), .ref (g 8 1), .int a, .int b] : List Value).toArray below meth c H locs 0 0 (MQ below (va_Qv (fun (u : SS) => ∃ (na_1_5 : Nat → Int32), (∀ j : Nat, (j : Int) < (8 * (12 * (iv 1 7).toInt + (iv 1 8).toInt)) → na_1_5 j = (fa 1 5) j) ∧ (∀ j : Nat, (j : Int) < 8 → ((j : Int) < b.toInt - a.toInt → na_1_5 ((8 * (12 * ((iv 1 7).toInt).toNat + ((iv 1 8).toInt).toNat)) + j) = vp_nar .byte ((fa 8 1) ((a.toInt).toNat + j))) ∧ (b.toInt - a.toInt ≤ (j : Int) → na_1_5 ((8 * (12 * ((iv 1 7).toInt).toNat + ((iv 1 8).toInt).toNat)) + j) = 0)) ∧ u = (iv, lv, (u2 fa 1 5 na_1_5), la)) (bX (dC, dI) h g ca A) A) ([.ref (g 11 3), .ref (g 8 1), .int a, .int b] : List Value).toArray s 0 0 A) (F0 m 38 ls []) := by
        intro nn106
        induction nn106 with
        | zero => intro x105_5 w105_a_1_5 hx105_5 hw105_a_1_5 hq106_0 hq106_1 hm106; exfalso; omega
        | succ nn106 ih106 =>
          intro x105_5 w105_a_1_5 hx105_5 hw105_a_1_5 hq106_0 hq106_1 hm106 H locs ls hP hD hS hl
          refine lv_iload hx hb dX1_draftWord_38 (lv_at hl 0 rfl) ?_
          refine lv_bipush (v := 8) hx hb dX1_draftWord_40 (by decide) ?_
          refine lv_icmp_ge (tgt := 79) hx hb dX1_draftWord_42 (by decide) (fun c107 => ?_) (fun c107 => ?_)
          · have fc107 := z_le (by decide : (8 : Int32).toInt = 8) (rfl : (x105_5).toInt = _) c107
            have hP9 : va_P (dC, dI) classes (WX h g ca iv lv (u2 fa 1 5 w105_a_1_5) la) H := hP
            have hD9 : va_D A (WX h g ca iv lv (u2 fa 1 5 w105_a_1_5) la) := hD
            exact W.vret hx hb hr (fun t ht9 hW => ⟨⟨(iv, lv, (u2 fa 1 5 w105_a_1_5), la), rfl, ⟨w105_a_1_5, (show ∀ j : Nat, (j : Int) < (8 * (12 * (iv 1 7).toInt + (iv 1 8).toInt)) → w105_a_1_5 j = (fa 1 5) j from (fun j hj => hq106_0 j (by omega))), (show ∀ j : Nat, (j : Int) < 8 → ((j : Int) < (b).toInt - (a).toInt → w105_a_1_5 ((8 * (12 * ((iv 1 7).toInt).toNat + ((iv 1 8).toInt).toNat)) + j) = vp_nar .byte ((fa 8 1) (((a).toInt).toNat + j))) ∧ ((b).toInt - (a).toInt ≤ (j : Int) → w105_a_1_5 ((8 * (12 * ((iv 1 7).toInt).toNat + ((iv 1 8).toInt).toNat)) + j) = 0) from (by have he9 : ((v5 : Int32).toInt).toNat = 8 * (12 * ((iv 1 7).toInt).toNat + ((iv 1 8).toInt).toNat) := (by omega); have hq9 := hq106_1; rw [he9] at hq9; exact fun j hj => hq9 j (by omega))), rfl⟩, by rw [ht9]; exact hP9, hD9⟩, hS.F ht9⟩) hS.2.2 dX1_draftWord_79
          · have fc107 := z_nle (by decide : (8 : Int32).toInt = 8) (rfl : (x105_5).toInt = _) c107
            refine lv_aload_n hx hb dX1_draftWord_45 rfl (lv_at hl 2 rfl) ?_
            refine gX_1_5 hx hb ht hown hK hP m_194 dX1_draftWord_46 ?_
            refine lv_iload hx hb dX1_draftWord_49 (lv_at hl 1 rfl) ?_
            refine lv_iload hx hb dX1_draftWord_51 (lv_at hl 0 rfl) ?_
            refine lv_iadd hx hb dX1_draftWord_53 ?_
            refine lv_topi (fun v108 ev108 => ?_)
            have tv108 := z_add ev108 (rfl : (v5).toInt = _) (rfl : (x105_5).toInt = _) (by omega) (by omega)
            refine lv_iload_n hx hb dX1_draftWord_54 rfl (lv_at hl 4 rfl) ?_
            refine lv_iload hx hb dX1_draftWord_55 (lv_at hl 0 rfl) ?_
            refine lv_iadd hx hb dX1_draftWord_57 ?_
            refine lv_topi (fun v109 ev109 => ?_)
            have tv109 := z_add ev109 (rfl : (a).toInt = _) (rfl : (x105_5).toInt = _) (by omega) (by omega)
            refine lv_iload_n hx hb dX1_draftWord_58 rfl (lv_at hl 5 rfl) ?_
            refine lv_icmp_ge (tgt := 71) hx hb dX1_draftWord_59 (by decide) (fun c110 => ?_) (fun c110 => ?_)
            · have fc110 := z_le (rfl : (b).toInt = _) (rfl : (v109).toInt = _) c110
              refine lv_iconst (v := 0) hx hb dX1_draftWord_71 (by decide) ?_
              refine tX_1_5 hx hb hK hP hD hS (f0 := w105_a_1_5) rfl (i := v108) (x := 0) (vp_in_iff.mpr ⟨by omega, by omega⟩) dX1_draftWord_72 (fun f111 ef111 H locs hP hD hS => ?_)
              have hf111 : ∀ j, inb (bA 1 5 j) (f111 j) := fun j => full_i _
              have hP : va_P (dC, dI) classes (WX h g ca iv lv (u2 fa 1 5 f111) la) H := hP
              have hD : va_D A (WX h g ca iv lv (u2 fa 1 5 f111) la) := hD
              obtain ⟨v112, ev112⟩ : ∃ y : Int32, y = x105_5 + 1 := ⟨_, rfl⟩
              have tv112 := z_add ev112 rfl (by decide : (1 : Int32).toInt = 1) (by omega) (by omega)
              refine lv_iinc (v := v112) (lv' := [(5, .int v112), (4, .int v5), (0, .ref (g 11 3)), (1, .ref (g 8 1)), (2, .int a), (3, .int b)]) hx hb dX1_draftWord_73 hl (k := 0) rfl (by rw [ev112]; rfl) (by decide) rfl (fun ls hl => ?_)
              refine lv_goto (tgt := 38) hx hb dX1_draftWord_76 (by decide) ?_
              exact ih106 v112 f111 ⟨by omega, by omega⟩ hf111 (show ∀ j : Nat, (j : Int) < (v5 : Int32).toInt → f111 j = (fa 1 5) j from fun j hj => by rw [ef111, upd_ne (by show j ≠ (v108 : Int32).toInt.toNat; omega)]; exact hq106_0 j hj) (show ∀ j : Nat, (j : Int) < (v112 : Int32).toInt → ((j : Int) < (b).toInt - (a).toInt → f111 (((v5 : Int32).toInt).toNat + j) = vp_nar .byte ((fa 8 1) (((a).toInt).toNat + j))) ∧ ((b).toInt - (a).toInt ≤ (j : Int) → f111 (((v5 : Int32).toInt).toNat + j) = 0) from (fun j hj => by
                    by_cases hj2 : (j : Int) < (x105_5 : Int32).toInt
                    · rw [ef111, upd_ne (by show _ ≠ (v108 : Int32).toInt.toNat; omega)]; exact hq106_1 j hj2
                    · have hj3 : j = ((x105_5 : Int32).toInt).toNat := by omega
                      have hj4 : ((v5 : Int32).toInt).toNat + j = (v108 : Int32).toNatClampNeg := by show _ = (v108 : Int32).toInt.toNat; omega
                      rw [hj4, ef111, upd_eq]
                      exact ⟨fun h9 => absurd h9 (by omega), fun _ => (by decide)⟩)) (by omega) _ _ ls hP hD hS (lv_sub hl [0, 1, 2, 3, 4, 5] rfl)
            · have fc110 := z_nle (rfl : (b).toInt = _) (rfl : (v109).toInt = _) c110
              refine lv_aload_n hx hb dX1_draftWord_62 rfl (lv_at hl 3 rfl) ?_
              refine lv_iload_n hx hb dX1_draftWord_63 rfl (lv_at hl 4 rfl) ?_
              refine lv_iload hx hb dX1_draftWord_64 (lv_at hl 0 rfl) ?_
              refine lv_iadd hx hb dX1_draftWord_66 ?_
              refine lv_topi (fun v113 ev113 => ?_)
              obtain rfl : v109 = v113 := ev109.trans ev113.symm
              refine lX_8_1 hx hb hK hP (f := (fa 8 1)) rfl (vp_in_iff.mpr ⟨by omega, by omega⟩) dX1_draftWord_67 ?_
              refine lv_topi (fun v114 ev114 => ?_)
              refine lv_goto (tgt := 72) hx hb dX1_draftWord_68 (by decide) ?_
              refine tX_1_5 hx hb hK hP hD hS (f0 := w105_a_1_5) rfl (i := v108) (x := v114) (vp_in_iff.mpr ⟨by omega, by omega⟩) dX1_draftWord_72 (fun f115 ef115 H locs hP hD hS => ?_)
              have hf115 : ∀ j, inb (bA 1 5 j) (f115 j) := fun j => full_i _
              have hP : va_P (dC, dI) classes (WX h g ca iv lv (u2 fa 1 5 f115) la) H := hP
              have hD : va_D A (WX h g ca iv lv (u2 fa 1 5 f115) la) := hD
              obtain ⟨v116, ev116⟩ : ∃ y : Int32, y = x105_5 + 1 := ⟨_, rfl⟩
              have tv116 := z_add ev116 rfl (by decide : (1 : Int32).toInt = 1) (by omega) (by omega)
              refine lv_iinc (v := v116) (lv' := [(5, .int v116), (4, .int v5), (0, .ref (g 11 3)), (1, .ref (g 8 1)), (2, .int a), (3, .int b)]) hx hb dX1_draftWord_73 hl (k := 0) rfl (by rw [ev116]; rfl) (by decide) rfl (fun ls hl => ?_)
              refine lv_goto (tgt := 38) hx hb dX1_draftWord_76 (by decide) ?_
              exact ih106 v116 f115 ⟨by omega, by omega⟩ hf115 (show ∀ j : Nat, (j : Int) < (v5 : Int32).toInt → f115 j = (fa 1 5) j from fun j hj => by rw [ef115, upd_ne (by show j ≠ (v108 : Int32).toInt.toNat; omega)]; exact hq106_0 j hj) (show ∀ j : Nat, (j : Int) < (v116 : Int32).toInt → ((j : Int) < (b).toInt - (a).toInt → f115 (((v5 : Int32).toInt).toNat + j) = vp_nar .byte ((fa 8 1) (((a).toInt).toNat + j))) ∧ ((b).toInt - (a).toInt ≤ (j : Int) → f115 (((v5 : Int32).toInt).toNat + j) = 0) from (fun j hj => by
                    by_cases hj2 : (j : Int) < (x105_5 : Int32).toInt
                    · rw [ef115, upd_ne (by show _ ≠ (v108 : Int32).toInt.toNat; omega)]; exact hq106_1 j hj2
                    · have hj3 : j = ((x105_5 : Int32).toInt).toNat := by omega
                      have hj4 : ((v5 : Int32).toInt).toNat + j = (v108 : Int32).toNatClampNeg := by show _ = (v108 : Int32).toInt.toNat; omega
                      rw [hj4, ef115, upd_eq]
                      exact ⟨fun _ => (by rw [ev114]; exact congrArg (fun q => vp_nar .byte (fa 8 1 q)) (by show (v109 : Int32).toInt.toNat = _; omega)), fun h9 => absurd h9 (by omega)⟩)) (by omega) _ _ ls hP hD hS (lv_sub hl [0, 1, 2, 3, 4, 5] rfl)
      have : (0 : Int32).toInt = 0 := (by decide)
      exact lp106 9 0 (fa 1 5) ⟨by decide, by decide⟩ (hI.2 1 5) (show ∀ j : Nat, (j : Int) < (v5 : Int32).toInt → (fa 1 5) j = (fa 1 5) j from fun j hj => rfl) (show ∀ j : Nat, (j : Int) < (0 : Int32).toInt → ((j : Int) < (b).toInt - (a).toInt → (fa 1 5) (((v5 : Int32).toInt).toNat + j) = vp_nar .byte ((fa 8 1) (((a).toInt).toNat + j))) ∧ ((b).toInt - (a).toInt ≤ (j : Int) → (fa 1 5) (((v5 : Int32).toInt).toNat + j) = 0) from fun j hj => absurd hj (by omega)) (by first | decide | omega) _ _ ls hP hD hS (lv_sub hl [0, 1, 2, 3, 4, 5] rfl)
set_option maxHeartbeats 4000000 in
set_option maxRecDepth 100000 in
/-- X8_readWord -/
theorem c_X8_readWord_r (l : Launch) (dC : Nat → ClassId) (dI : Nat → Nat → Nat) (sz : Nat) (h : Nat) (g : Nat → Nat → Nat) (ca : Nat → Nat → ClassId) (iv : Nat → Nat → Int32) (lv : Nat → Nat → Int64) (fa : Nat → Nat → Nat → Int32) (la : Nat → Nat → Nat → Int64) (hI : IX iv fa) (q_1_7 : 0 ≤ (iv 1 7).toInt ∧ (iv 1 7).toInt ≤ 7) (q_1_8 : 0 ≤ (iv 1 8).toInt ∧ (iv 1 8).toInt ≤ 11) : Met l yX8_readWord (wc yX8_readWord cX8_readWord 2 (some .boolean)) ({ frames := 1, cells := 0, slots := 0, locals := 25 } : Room) (pW (dC, dI) classes (WX h g ca iv lv fa la) (TX ca) sz [.ref (g 11 4)]) (va_Qi (fun r (u : SS) => ∃ (na_1_5 : Nat → Int32) (ni_8_3 : Int32) (ni_8_4 : Int32) (ni_8_5 : Int32), inb (bI 8 3) ni_8_3 ∧ inb (bI 8 4) ni_8_4 ∧ inb (bI 8 5) ni_8_5 ∧ (∃ s e : Int, Sk (fun j => ((fa 8 1) j).toInt) (iv 8 2).toInt (iv 8 5).toInt s ∧ Rn (fun j => ((fa 8 1) j).toInt) (iv 8 2).toInt 97 122 s e ∧ ((r.toInt = 0 ∧ e = s ∧ (ni_8_4).toInt = 1 ∧ (ni_8_3).toInt = s) ∨ (r.toInt = 0 ∧ 8 < e - s ∧ (ni_8_4).toInt = 4 ∧ (ni_8_3).toInt = s) ∨ (r.toInt = 1 ∧ (ni_8_4).toInt = (iv 8 4).toInt ∧ (ni_8_3).toInt = (iv 8 3).toInt ∧ (ni_8_5).toInt = e ∧ (s < e ∧ e - s ≤ 8) ∧ ∀ j : Nat, j < 8 → ((j : Int) < e - s → (na_1_5 ((8 * (12 * ((iv 1 7).toInt).toNat + ((iv 1 8).toInt).toNat)) + j)).toInt = ((fa 8 1) (s.toNat + j)).toInt) ∧ (e - s ≤ (j : Int) → (na_1_5 ((8 * (12 * ((iv 1 7).toInt).toNat + ((iv 1 8).toInt).toNat)) + j)).toInt = 0)))) ∧ (∀ j : Nat, (j : Int) < (8 * (12 * (iv 1 7).toInt + (iv 1 8).toInt)) → na_1_5 j = (fa 1 5) j) ∧ (0 ≤ r.toInt ∧ r.toInt ≤ 1) ∧ u = ((u2 (u2 (u2 iv 8 3 ni_8_3) 8 4 ni_8_4) 8 5 ni_8_5), lv, (u2 fa 1 5 na_1_5), la)) (bX (dC, dI) h g ca (va_A (WX h g ca iv lv fa la) sz)) (va_A (WX h g ca iv lv fa la) sz)) 0 0 (va_A (WX h g ca iv lv fa la) sz) := by
  refine Met.ofW (cc := cX8_readWord) (maxL := 2) (ret := (some .boolean)) (by decide) rfl ?_
  intro p e s m args below meth c s₁ B hml hv
  obtain ⟨rfl, hsz, hP, hK, hD0⟩ := hv
  have hx := B.exec
  have hb := B.bytes
  have hr := B.returns
  have ht := tb_tl (atoms_spec (ws := wc yX8_readWord cX8_readWord 2 (some .boolean)) B.pre)
  have hown : s.vm.findClass RX8 = some m.cls := findClass_of_methodNamed B.named
  have hlocks := B.notSynchronized
  subst hsz
  have hD := hD0.self (sz := s.heap.size)
  generalize hAe : va_A (WX h g ca iv lv fa la) s.heap.size = A at hD ⊢
  have hA : ∀ q : Nat, s.heap.size ≤ q → A q := fun q h => by rw [← hAe]; exact Or.inr h
  have hS : va_S A s.heap s.heap [] := va_S.rf
  have hl := lv_entry [.ref (g 11 4)] (n := 2) (Nat.le_of_ble_eq_true rfl)
  rw [lg_entry_eq]
  generalize (lg_sl [.ref (g 11 4)] ++ List.replicate (2 - (lg_sl [.ref (g 11 4)]).length) Slot.unset).toArray = ls at hl ⊢
  have hl : lv_has ls 2 [(0, .ref (g 11 4))] := hl
  refine lv_aload_n hx hb dX8_readWord_0 rfl (lv_at hl 0 rfl) ?_
  have i_8_5 : 0 ≤ (iv 8 5).toInt ∧ (iv 8 5).toInt ≤ 200 := hI.1 8 5
  have hFc := free_all hD hS hA
  refine va_calli (va_runV (As := []) (rest := []) ⟨hx, hb, hml, hown, ht⟩ (c_X8_skipBlanks_r l dC dI s.heap.size h g ca iv lv fa la hI) (kV 0 ht m_688 m_690 m_16 m_82 m_691 rfl rfl hd_X8_skipBlanks_v ⟨Nat.le_of_ble_eq_true rfl, Nat.le_of_ble_eq_true rfl⟩) (vW hP hK hD (rX_8 hK hP)) rfl rfl hl.1 rfl (lv_room (Nat.le_of_ble_eq_true rfl)) dX8_readWord_1 ⟨Nat.le_of_ble_eq_true rfl, Nat.le_of_ble_eq_true rfl⟩) hS (fun q _ h => hFc q h) hFc (fun r1 u t H1 locs ht9 hvm hr1 hB hz1 hk1 hS => ?_)
  obtain ⟨n2, hn2, xr1_0, xr1_1, hr1, rfl⟩ := hr1
  have hn2 : 0 ≤ n2.toInt ∧ n2.toInt ≤ 200 := hn2
  obtain ⟨hP, hD⟩ := hB
  rw [ht9] at hP
  generalize H1 = H at hP hS ⊢
  have hP : va_P (dC, dI) classes (WX h g ca (u2 iv 8 5 n2) lv fa la) H := hP
  have hD : va_D A (WX h g ca (u2 iv 8 5 n2) lv fa la) := (show va_D _ (WX h g ca (u2 iv 8 5 n2) lv fa la) from hD).weaken (fun _ _ _ h => hFc _ h)
  have i_8_2 : 0 ≤ (iv 8 2).toInt ∧ (iv 8 2).toInt ≤ 200 := hI.1 8 2
  have xr1_0 : Sk (fun j => ((fa 8 1) j).toInt) ((iv 8 2) : Int32).toInt ((iv 8 5) : Int32).toInt (n2 : Int32).toInt := xr1_0
  have xr1_1 : (((r1 : Int32).toInt = 1 ∧ (n2 : Int32).toInt < ((iv 8 2) : Int32).toInt) ∨ ((r1 : Int32).toInt = 0 ∧ ((iv 8 2) : Int32).toInt ≤ (n2 : Int32).toInt)) := xr1_1
  refine lv_pop hx hb dX8_readWord_4 rfl ?_
  refine lv_aload_n hx hb dX8_readWord_5 rfl (lv_at hl 0 rfl) ?_
  refine lv_bipush (v := 97) hx hb dX8_readWord_6 (by decide) ?_
  refine lv_bipush (v := 122) hx hb dX8_readWord_8 (by decide) ?_
  refine vp_callSi (W.runV (As := [.int 97, .int 122]) (rest := []) ⟨hx, hb, hml, hown, ht⟩ (c_X8_endOfRun_r97 l dC dI h g ca (u2 iv 8 5 n2) lv fa la (IX_i (c := 8) (k := 5) hI (show inb (0, 200) n2 from ⟨by omega, by omega⟩))) (kV 2 ht m_701 m_703 m_19 m_82 m_704 rfl rfl hd_X8_endOfRun_v ⟨Nat.le_of_ble_eq_true rfl, Nat.le_of_ble_eq_true rfl⟩) (vR hP hK (rX_8 hK hP)) rfl rfl hl.1 rfl (lv_room (Nat.le_of_ble_eq_true rfl)) dX8_readWord_10 ⟨Nat.le_of_ble_eq_true rfl, Nat.le_of_ble_eq_true rfl⟩) (fun r3 hr3 => ?_)
  obtain ⟨hr3, xr3_0, xr3_1⟩ := hr3
  have xr3_0 : Rn (fun j => ((fa 8 1) j).toInt) ((iv 8 2) : Int32).toInt 97 122 (n2 : Int32).toInt (r3 : Int32).toInt := xr3_0
  have xr3_1 : (n2 : Int32).toInt ≤ (r3 : Int32).toInt := xr3_1
  refine lv_istore_n (lv' := [(1, .int r3), (0, .ref (g 11 4))]) hx hb dX8_readWord_13 rfl hl (by decide) rfl (fun ls hl => ?_)
  refine lv_iload_n hx hb dX8_readWord_14 rfl (lv_at hl 0 rfl) ?_
  refine lv_aload_n hx hb dX8_readWord_15 rfl (lv_at hl 1 rfl) ?_
  refine gX_8_5 hx hb ht hown hK hP m_235 (v := n2) rfl dX8_readWord_16 ?_
  refine lv_icmp_ne (tgt := 32) hx hb dX8_readWord_19 (by decide) (fun c4 => ?_) (fun c4 => ?_)
  · have fc4 := z_ne (rfl : (r3).toInt = _) (rfl : (n2).toInt = _) c4
    refine lv_iload_n hx hb dX8_readWord_32 rfl (lv_at hl 0 rfl) ?_
    refine lv_aload_n hx hb dX8_readWord_33 rfl (lv_at hl 1 rfl) ?_
    refine gX_8_5 hx hb ht hown hK hP m_235 (v := n2) rfl dX8_readWord_34 ?_
    refine lv_isub hx hb dX8_readWord_37 ?_
    refine lv_topi (fun v5 ev5 => ?_)
    have tv5 := z_sub ev5 (rfl : (r3).toInt = _) (rfl : (n2).toInt = _) (by omega) (by omega)
    refine lv_bipush (v := 8) hx hb dX8_readWord_38 (by decide) ?_
    refine lv_icmp_le (tgt := 53) hx hb dX8_readWord_40 (by decide) (fun c6 => ?_) (fun c6 => ?_)
    · have fc6 := z_le (rfl : (v5).toInt = _) (by decide : (8 : Int32).toInt = 8) c6
      refine lv_aload_n hx hb dX8_readWord_53 rfl (lv_at hl 1 rfl) ?_
      refine gX_8_0 hx hb ht hown hK hP m_228 dX8_readWord_54 ?_
      refine lv_aload_n hx hb dX8_readWord_57 rfl (lv_at hl 1 rfl) ?_
      refine gX_8_1 hx hb ht hown hK hP m_229 dX8_readWord_58 ?_
      refine lv_aload_n hx hb dX8_readWord_61 rfl (lv_at hl 1 rfl) ?_
      refine gX_8_5 hx hb ht hown hK hP m_235 (v := n2) rfl dX8_readWord_62 ?_
      refine lv_iload_n hx hb dX8_readWord_65 rfl (lv_at hl 0 rfl) ?_
      have i_1_7 : 0 ≤ (iv 1 7).toInt ∧ (iv 1 7).toInt ≤ 8 := hI.1 1 7
      have i_1_8 : 0 ≤ (iv 1 8).toInt ∧ (iv 1 8).toInt ≤ 12 := hI.1 1 8
      have hFc := free_all hD hS hA
      refine va_callv (va_runV (As := [.ref (g 8 1), .int n2, .int r3]) (rest := []) ⟨hx, hb, hml, hown, ht⟩ (c_X1_draftWord_r l dC dI H.size h g ca (u2 iv 8 5 n2) lv fa la (IX_i (c := 8) (k := 5) hI (show inb (0, 200) n2 from ⟨by omega, by omega⟩)) n2 r3 (show 0 ≤ ((iv 1 7) : Int32).toInt ∧ ((iv 1 7) : Int32).toInt ≤ 7 from ⟨by omega, by omega⟩) (show 0 ≤ ((iv 1 8) : Int32).toInt ∧ ((iv 1 8) : Int32).toInt ≤ 11 from ⟨by omega, by omega⟩) ⟨by omega, by omega⟩ ⟨by omega, by omega⟩) (kV 3 ht m_796 m_797 m_798 m_81 m_799 rfl rfl hd_X1_draftWord_v ⟨Nat.le_of_ble_eq_true rfl, Nat.le_of_ble_eq_true rfl⟩) (vW hP hK hD (rX_1 hK hP)) rfl rfl hl.1 rfl (lv_room (Nat.le_of_ble_eq_true rfl)) dX8_readWord_66 ⟨Nat.le_of_ble_eq_true rfl, Nat.le_of_ble_eq_true rfl⟩) hS (fun q _ h => hFc q h) hFc (fun u t H1 locs ht9 hvm hr7 hB hz1 hk1 hS => ?_)
      obtain ⟨n8, xr7_0, xr7_1, rfl⟩ := hr7
      have hn8 : ∀ j, inb (bA 1 5 j) (n8 j) := fun j => full_i _
      obtain ⟨hP, hD⟩ := hB
      rw [ht9] at hP
      generalize H1 = H at hP hS ⊢
      have hP : va_P (dC, dI) classes (WX h g ca (u2 iv 8 5 n2) lv (u2 fa 1 5 n8) la) H := hP
      have hD : va_D A (WX h g ca (u2 iv 8 5 n2) lv (u2 fa 1 5 n8) la) := (show va_D _ (WX h g ca (u2 iv 8 5 n2) lv (u2 fa 1 5 n8) la) from hD).weaken (fun _ _ _ h => hFc _ h)
      have xr7_0 : ∀ j : Nat, (j : Int) < (8 * (12 * ((iv 1 7) : Int32).toInt + ((iv 1 8) : Int32).toInt)) → n8 j = (fa 1 5) j := xr7_0
      have xr7_1 : ∀ j : Nat, (j : Int) < 8 → ((j : Int) < (r3 : Int32).toInt - (n2 : Int32).toInt → n8 ((8 * (12 * (((iv 1 7) : Int32).toInt).toNat + (((iv 1 8) : Int32).toInt).toNat)) + j) = vp_nar .byte ((fa 8 1) (((n2 : Int32).toInt).toNat + j))) ∧ ((r3 : Int32).toInt - (n2 : Int32).toInt ≤ (j : Int) → n8 ((8 * (12 * (((iv 1 7) : Int32).toInt).toNat + (((iv 1 8) : Int32).toInt).toNat)) + j) = 0) := xr7_1
      refine lv_aload_n hx hb dX8_readWord_69 rfl (lv_at hl 1 rfl) ?_
      refine lv_iload_n hx hb dX8_readWord_70 rfl (lv_at hl 0 rfl) ?_
      refine pX_8_5 (v := r3) hx hb ht hown hK hP hD hS m_235 dX8_readWord_71 (fun H locs hP hD hS => ?_)
      have hP : va_P (dC, dI) classes (WX h g ca (u2 iv 8 5 r3) lv (u2 fa 1 5 n8) la) H := hP
      have hD : va_D A (WX h g ca (u2 iv 8 5 r3) lv (u2 fa 1 5 n8) la) := hD
      refine lv_iconst (v := 1) hx hb dX8_readWord_74 (by decide) ?_
      have : (1 : Int32).toInt = 1 := (by decide)
      have i_8_4 : 0 ≤ (iv 8 4).toInt ∧ (iv 8 4).toInt ≤ 5 := hI.1 8 4
      have i_8_3 : (-1) ≤ (iv 8 3).toInt ∧ (iv 8 3).toInt ≤ 200 := hI.1 8 3
      have hP9 : va_P (dC, dI) classes (WX h g ca (u2 (u2 (u2 iv 8 3 (iv 8 3)) 8 4 (iv 8 4)) 8 5 r3) lv (u2 fa 1 5 n8) la) H := hP
      have hD9 : va_D A (WX h g ca (u2 (u2 (u2 iv 8 3 (iv 8 3)) 8 4 (iv 8 4)) 8 5 r3) lv (u2 fa 1 5 n8) la) := hD
      exact W.zret (v := 1) hx hb hr rfl (fun t ht9 hW => ⟨⟨1, ((u2 (u2 (u2 iv 8 3 (iv 8 3)) 8 4 (iv 8 4)) 8 5 r3), lv, (u2 fa 1 5 n8), la), rfl, ⟨n8, (iv 8 3), (iv 8 4), r3, (hI.1 8 3), (hI.1 8 4), (show inb (0, 200) r3 from ⟨by omega, by omega⟩), (show ∃ s e : Int, Sk (fun j => ((fa 8 1) j).toInt) ((iv 8 2) : Int32).toInt (iv 8 5).toInt s ∧ Rn (fun j => ((fa 8 1) j).toInt) ((iv 8 2) : Int32).toInt 97 122 s e ∧ (((1 : Int32).toInt = 0 ∧ e = s ∧ ((iv 8 4) : Int32).toInt = 1 ∧ ((iv 8 3) : Int32).toInt = s) ∨ ((1 : Int32).toInt = 0 ∧ 8 < e - s ∧ ((iv 8 4) : Int32).toInt = 4 ∧ ((iv 8 3) : Int32).toInt = s) ∨ ((1 : Int32).toInt = 1 ∧ ((iv 8 4) : Int32).toInt = (iv 8 4).toInt ∧ ((iv 8 3) : Int32).toInt = (iv 8 3).toInt ∧ (r3 : Int32).toInt = e ∧ (s < e ∧ e - s ≤ 8) ∧ ∀ j : Nat, j < 8 → ((j : Int) < e - s → (n8 ((8 * (12 * ((iv 1 7).toInt).toNat + ((iv 1 8).toInt).toNat)) + j)).toInt = ((fa 8 1) (s.toNat + j)).toInt) ∧ (e - s ≤ (j : Int) → (n8 ((8 * (12 * ((iv 1 7).toInt).toNat + ((iv 1 8).toInt).toNat)) + j)).toInt = 0))) from (by exact ⟨_, _, xr1_0, xr3_0, Or.inr (Or.inr ⟨by omega, by omega, by omega, by omega, ⟨by omega, by omega⟩, (fun j hj => ⟨fun h9 => (by rw [(xr7_1 j (by omega)).1 h9, nar_byte_id]; have hr9 : 97 ≤ (fa 8 1 ((n2 : Int32).toInt.toNat + j)).toInt ∧ (fa 8 1 ((n2 : Int32).toInt.toNat + j)).toInt ≤ 122 := (xr3_0.2.1 ((n2 : Int32).toInt.toNat + j) (by omega) (by omega)).2; exact ⟨by omega, by omega⟩), fun h9 => (by rw [(xr7_1 j (by omega)).2 h9]; decide)⟩)⟩)⟩)), (show ∀ j : Nat, (j : Int) < (8 * (12 * (iv 1 7).toInt + (iv 1 8).toInt)) → n8 j = (fa 1 5) j from xr7_0), ⟨by decide, by decide⟩, rfl⟩, by rw [ht9]; exact hP9, hD9⟩, hS.F ht9⟩) hS.2.2 dX8_readWord_75
    · have fc6 := z_nle (rfl : (v5).toInt = _) (by decide : (8 : Int32).toInt = 8) c6
      refine lv_aload_n hx hb dX8_readWord_43 rfl (lv_at hl 1 rfl) ?_
      refine lv_iconst (v := 4) hx hb dX8_readWord_44 (by decide) ?_
      refine lv_aload_n hx hb dX8_readWord_45 rfl (lv_at hl 1 rfl) ?_
      refine gX_8_5 hx hb ht hown hK hP m_235 (v := n2) rfl dX8_readWord_46 ?_
      have hFc := free_all hD hS hA
      refine va_calli (va_runV (As := [.int 4, .int n2]) (rest := []) ⟨hx, hb, hml, hown, ht⟩ (c_X8_fail_r l dC dI H.size h g ca (u2 iv 8 5 n2) lv fa la (IX_i (c := 8) (k := 5) hI (show inb (0, 200) n2 from ⟨by omega, by omega⟩)) 4 n2 ⟨by decide, by decide⟩ ⟨by omega, by omega⟩) (kV 2 ht m_757 m_759 m_21 m_82 m_760 rfl rfl hd_X8_fail_v ⟨Nat.le_of_ble_eq_true rfl, Nat.le_of_ble_eq_true rfl⟩) (vW hP hK hD (rX_8 hK hP)) rfl rfl hl.1 rfl (lv_room (Nat.le_of_ble_eq_true rfl)) dX8_readWord_49 ⟨Nat.le_of_ble_eq_true rfl, Nat.le_of_ble_eq_true rfl⟩) hS (fun q _ h => hFc q h) hFc (fun r9 u t H1 locs ht9 hvm hr9 hB hz1 hk1 hS => ?_)
      obtain ⟨n10, n11, hn10, hn11, xr9_0, xr9_1, hr9, rfl⟩ := hr9
      have hn10 : (-1) ≤ n10.toInt ∧ n10.toInt ≤ 200 := hn10
      have hn11 : 0 ≤ n11.toInt ∧ n11.toInt ≤ 5 := hn11
      obtain ⟨hP, hD⟩ := hB
      rw [ht9] at hP
      generalize H1 = H at hP hS ⊢
      have hP : va_P (dC, dI) classes (WX h g ca (u2 (u2 (u2 iv 8 5 n2) 8 3 n10) 8 4 n11) lv fa la) H := hP
      have hD : va_D A (WX h g ca (u2 (u2 (u2 iv 8 5 n2) 8 3 n10) 8 4 n11) lv fa la) := (show va_D _ (WX h g ca (u2 (u2 (u2 iv 8 5 n2) 8 3 n10) 8 4 n11) lv fa la) from hD).weaken (fun _ _ _ h => hFc _ h)
      have : (4 : Int32).toInt = 4 := (by decide)
      have xr9_0 : (n11 : Int32).toInt = (4 : Int32).toInt := xr9_0
      have xr9_1 : (n10 : Int32).toInt = (n2 : Int32).toInt := xr9_1
      have hP9 : va_P (dC, dI) classes (WX h g ca (u2 (u2 (u2 iv 8 3 n10) 8 4 n11) 8 5 n2) lv (u2 fa 1 5 (fa 1 5)) la) H := hP
      have hD9 : va_D A (WX h g ca (u2 (u2 (u2 iv 8 3 n10) 8 4 n11) 8 5 n2) lv (u2 fa 1 5 (fa 1 5)) la) := hD
      exact W.zret (v := r9) hx hb hr (nar01 ⟨by omega, by omega⟩) (fun t ht9 hW => ⟨⟨r9, ((u2 (u2 (u2 iv 8 3 n10) 8 4 n11) 8 5 n2), lv, (u2 fa 1 5 (fa 1 5)), la), rfl, ⟨(fa 1 5), n10, n11, n2, (show inb ((-1), 200) n10 from ⟨by omega, by omega⟩), (show inb (0, 5) n11 from ⟨by omega, by omega⟩), (show inb (0, 200) n2 from ⟨by omega, by omega⟩), (show ∃ s e : Int, Sk (fun j => ((fa 8 1) j).toInt) ((iv 8 2) : Int32).toInt (iv 8 5).toInt s ∧ Rn (fun j => ((fa 8 1) j).toInt) ((iv 8 2) : Int32).toInt 97 122 s e ∧ (((r9 : Int32).toInt = 0 ∧ e = s ∧ (n11 : Int32).toInt = 1 ∧ (n10 : Int32).toInt = s) ∨ ((r9 : Int32).toInt = 0 ∧ 8 < e - s ∧ (n11 : Int32).toInt = 4 ∧ (n10 : Int32).toInt = s) ∨ ((r9 : Int32).toInt = 1 ∧ (n11 : Int32).toInt = (iv 8 4).toInt ∧ (n10 : Int32).toInt = (iv 8 3).toInt ∧ (n2 : Int32).toInt = e ∧ (s < e ∧ e - s ≤ 8) ∧ ∀ j : Nat, j < 8 → ((j : Int) < e - s → ((fa 1 5) ((8 * (12 * ((iv 1 7).toInt).toNat + ((iv 1 8).toInt).toNat)) + j)).toInt = ((fa 8 1) (s.toNat + j)).toInt) ∧ (e - s ≤ (j : Int) → ((fa 1 5) ((8 * (12 * ((iv 1 7).toInt).toNat + ((iv 1 8).toInt).toNat)) + j)).toInt = 0))) from (by exact ⟨_, _, xr1_0, xr3_0, Or.inr (Or.inl ⟨by omega, by omega, by omega, by omega⟩)⟩)), (show ∀ j : Nat, (j : Int) < (8 * (12 * (iv 1 7).toInt + (iv 1 8).toInt)) → (fa 1 5) j = (fa 1 5) j from fun j hj => rfl), ⟨by omega, by omega⟩, rfl⟩, by rw [ht9]; exact hP9, hD9⟩, hS.F ht9⟩) hS.2.2 dX8_readWord_52
  · have fc4 := z_eq (rfl : (r3).toInt = _) (rfl : (n2).toInt = _) c4
    refine lv_aload_n hx hb dX8_readWord_22 rfl (lv_at hl 1 rfl) ?_
    refine lv_iconst (v := 1) hx hb dX8_readWord_23 (by decide) ?_
    refine lv_aload_n hx hb dX8_readWord_24 rfl (lv_at hl 1 rfl) ?_
    refine gX_8_5 hx hb ht hown hK hP m_235 (v := n2) rfl dX8_readWord_25 ?_
    have hFc := free_all hD hS hA
    refine va_calli (va_runV (As := [.int 1, .int n2]) (rest := []) ⟨hx, hb, hml, hown, ht⟩ (c_X8_fail_r l dC dI H.size h g ca (u2 iv 8 5 n2) lv fa la (IX_i (c := 8) (k := 5) hI (show inb (0, 200) n2 from ⟨by omega, by omega⟩)) 1 n2 ⟨by decide, by decide⟩ ⟨by omega, by omega⟩) (kV 2 ht m_757 m_759 m_21 m_82 m_760 rfl rfl hd_X8_fail_v ⟨Nat.le_of_ble_eq_true rfl, Nat.le_of_ble_eq_true rfl⟩) (vW hP hK hD (rX_8 hK hP)) rfl rfl hl.1 rfl (lv_room (Nat.le_of_ble_eq_true rfl)) dX8_readWord_28 ⟨Nat.le_of_ble_eq_true rfl, Nat.le_of_ble_eq_true rfl⟩) hS (fun q _ h => hFc q h) hFc (fun r12 u t H1 locs ht9 hvm hr12 hB hz1 hk1 hS => ?_)
    obtain ⟨n13, n14, hn13, hn14, xr12_0, xr12_1, hr12, rfl⟩ := hr12
    have hn13 : (-1) ≤ n13.toInt ∧ n13.toInt ≤ 200 := hn13
    have hn14 : 0 ≤ n14.toInt ∧ n14.toInt ≤ 5 := hn14
    obtain ⟨hP, hD⟩ := hB
    rw [ht9] at hP
    generalize H1 = H at hP hS ⊢
    have hP : va_P (dC, dI) classes (WX h g ca (u2 (u2 (u2 iv 8 5 n2) 8 3 n13) 8 4 n14) lv fa la) H := hP
    have hD : va_D A (WX h g ca (u2 (u2 (u2 iv 8 5 n2) 8 3 n13) 8 4 n14) lv fa la) := (show va_D _ (WX h g ca (u2 (u2 (u2 iv 8 5 n2) 8 3 n13) 8 4 n14) lv fa la) from hD).weaken (fun _ _ _ h => hFc _ h)
    have : (1 : Int32).toInt = 1 := (by decide)
    have xr12_0 : (n14 : Int32).toInt = (1 : Int32).toInt := xr12_0
    have xr12_1 : (n13 : Int32).toInt = (n2 : Int32).toInt := xr12_1
    have hP9 : va_P (dC, dI) classes (WX h g ca (u2 (u2 (u2 iv 8 3 n13) 8 4 n14) 8 5 n2) lv (u2 fa 1 5 (fa 1 5)) la) H := hP
    have hD9 : va_D A (WX h g ca (u2 (u2 (u2 iv 8 3 n13) 8 4 n14) 8 5 n2) lv (u2 fa 1 5 (fa 1 5)) la) := hD
    exact W.zret (v := r12) hx hb hr (nar01 ⟨by omega, by omega⟩) (fun t ht9 hW => ⟨⟨r12, ((u2 (u2 (u2 iv 8 3 n13) 8 4 n14) 8 5 n2), lv, (u2 fa 1 5 (fa 1 5)), la), rfl, ⟨(fa 1 5), n13, n14, n2, (show inb ((-1), 200) n13 from ⟨by omega, by omega⟩), (show inb (0, 5) n14 from ⟨by omega, by omega⟩), (show inb (0, 200) n2 from ⟨by omega, by omega⟩), (show ∃ s e : Int, Sk (fun j => ((fa 8 1) j).toInt) ((iv 8 2) : Int32).toInt (iv 8 5).toInt s ∧ Rn (fun j => ((fa 8 1) j).toInt) ((iv 8 2) : Int32).toInt 97 122 s e ∧ (((r12 : Int32).toInt = 0 ∧ e = s ∧ (n14 : Int32).toInt = 1 ∧ (n13 : Int32).toInt = s) ∨ ((r12 : Int32).toInt = 0 ∧ 8 < e - s ∧ (n14 : Int32).toInt = 4 ∧ (n13 : Int32).toInt = s) ∨ ((r12 : Int32).toInt = 1 ∧ (n14 : Int32).toInt = (iv 8 4).toInt ∧ (n13 : Int32).toInt = (iv 8 3).toInt ∧ (n2 : Int32).toInt = e ∧ (s < e ∧ e - s ≤ 8) ∧ ∀ j : Nat, j < 8 → ((j : Int) < e - s → ((fa 1 5) ((8 * (12 * ((iv 1 7).toInt).toNat + ((iv 1 8).toInt).toNat)) + j)).toInt = ((fa 8 1) (s.toNat + j)).toInt) ∧ (e - s ≤ (j : Int) → ((fa 1 5) ((8 * (12 * ((iv 1 7).toInt).toNat + ((iv 1 8).toInt).toNat)) + j)).toInt = 0))) from (by exact ⟨_, _, xr1_0, xr3_0, Or.inl ⟨by omega, by omega, by omega, by omega⟩⟩)), (show ∀ j : Nat, (j : Int) < (8 * (12 * (iv 1 7).toInt + (iv 1 8).toInt)) → (fa 1 5) j = (fa 1 5) j from fun j hj => rfl), ⟨by omega, by omega⟩, rfl⟩, by rw [ht9]; exact hP9, hD9⟩, hS.F ht9⟩) hS.2.2 dX8_readWord_31
