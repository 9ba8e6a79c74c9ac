/-! ===== ca3 ===== -/
set_option maxHeartbeats 4000000 in
set_option maxRecDepth 100000 in
/-- X2_bothLeft -/
theorem c_X2_bothLeft_w (l : Launch) (dC : Nat → ClassId) (dI : Nat → Nat → Nat) (h : Nat) (g : Nat → Nat → Nat) (ca : Nat → Nat → ClassId) (iv : Nat → Nat → Int32) (lv : Nat → Nat → Int64) (fa : Nat → Nat → Nat → Int32) (la : Nat → Nat → Nat → Int64) (hI : IX iv fa) : Met l yX2_bothLeft (wc yX2_bothLeft cX2_bothLeft 1 (some .boolean)) ({ frames := 0, cells := 0, slots := 0, locals := 0 } : Room) (pR (dC, dI) classes (WX h g ca iv lv fa la) (TX ca) [.ref (g 11 6)]) (vp_Si (fun r => (0 ≤ r.toInt ∧ r.toInt ≤ 1) ∧ (((r.toInt = 1 ∧ (0 < ((fa 20 2) 0).toInt ∧ 0 < ((fa 20 2) 1).toInt)) ∨ (r.toInt = 0 ∧ ¬ (0 < ((fa 20 2) 0).toInt ∧ 0 < ((fa 20 2) 1).toInt)))))) 0 0 (fun _ => False) := by
  refine Met.ofW (cc := cX2_bothLeft) (maxL := 1) (ret := (some .boolean)) (by decide) rfl ?_
  intro p e s m args below meth c s₁ B hml hv
  obtain ⟨rfl, hP, hK⟩ := hv
  have hx := B.exec
  have hb := B.bytes
  have hr := B.returns
  have ht := tb_tl (atoms_spec (ws := wc yX2_bothLeft cX2_bothLeft 1 (some .boolean)) B.pre)
  have hown : s.vm.findClass RX2 = some m.cls := findClass_of_methodNamed B.named
  have hlocks := B.notSynchronized
  have hl := lv_entry [.ref (g 11 6)] (n := 1) (Nat.le_of_ble_eq_true rfl)
  rw [lg_entry_eq]
  generalize (lg_sl [.ref (g 11 6)] ++ List.replicate (1 - (lg_sl [.ref (g 11 6)]).length) Slot.unset).toArray = ls at hl ⊢
  have hl : lv_has ls 1 [(0, .ref (g 11 6))] := hl
  refine lv_aload_n hx hb dX2_bothLeft_0 rfl (lv_at hl 0 rfl) ?_
  refine gX_2_1 hx hb ht hown hK hP m_305 dX2_bothLeft_1 ?_
  refine gX_20_2 hx hb ht hown hK hP m_269 dX2_bothLeft_4 ?_
  refine lv_iconst (v := 0) hx hb dX2_bothLeft_7 (by decide) ?_
  refine lX_20_2 hx hb hK hP (f := (fa 20 2)) rfl (vp_in_iff.mpr (by decide)) dX2_bothLeft_8 ?_
  refine lv_topi (fun v1 ev1 => ?_)
  refine lv_if_le (tgt := 28) hx hb dX2_bothLeft_9 (by decide) (fun c2 => ?_) (fun c2 => ?_)
  · have fc2 := z_le (rfl : (v1).toInt = _) (by decide : (0 : Int32).toInt = 0) c2
    refine lv_iconst (v := 0) hx hb dX2_bothLeft_28 (by decide) ?_
    have : (0 : Int32).toInt = 0 := (by decide)
    exact W.zret (v := 0) hx hb hr rfl (fun t ht9 hW => ⟨0, rfl, ⟨⟨by decide, by decide⟩, (show (((0 : Int32).toInt = 1 ∧ (0 < ((fa 20 2) 0).toInt ∧ 0 < ((fa 20 2) 1).toInt)) ∨ ((0 : Int32).toInt = 0 ∧ ¬ (0 < ((fa 20 2) 0).toInt ∧ 0 < ((fa 20 2) 1).toInt))) from (by have hb0 := congrArg Int32.toInt (show v1 = fa 20 2 0 from ev1); omega))⟩, ht9⟩) (fun q hq => by cases hq) dX2_bothLeft_29
  · have fc2 := z_nle (rfl : (v1).toInt = _) (by decide : (0 : Int32).toInt = 0) c2
    refine lv_aload_n hx hb dX2_bothLeft_12 rfl (lv_at hl 0 rfl) ?_
    refine gX_2_1 hx hb ht hown hK hP m_305 dX2_bothLeft_13 ?_
    refine gX_20_2 hx hb ht hown hK hP m_269 dX2_bothLeft_16 ?_
    refine lv_iconst (v := 1) hx hb dX2_bothLeft_19 (by decide) ?_
    refine lX_20_2 hx hb hK hP (f := (fa 20 2)) rfl (vp_in_iff.mpr (by decide)) dX2_bothLeft_20 ?_
    refine lv_topi (fun v3 ev3 => ?_)
    refine lv_if_le (tgt := 28) hx hb dX2_bothLeft_21 (by decide) (fun c4 => ?_) (fun c4 => ?_)
    · have fc4 := z_le (rfl : (v3).toInt = _) (by decide : (0 : Int32).toInt = 0) c4
      refine lv_iconst (v := 0) hx hb dX2_bothLeft_28 (by decide) ?_
      have : (0 : Int32).toInt = 0 := (by decide)
      exact W.zret (v := 0) hx hb hr rfl (fun t ht9 hW => ⟨0, rfl, ⟨⟨by decide, by decide⟩, (show (((0 : Int32).toInt = 1 ∧ (0 < ((fa 20 2) 0).toInt ∧ 0 < ((fa 20 2) 1).toInt)) ∨ ((0 : Int32).toInt = 0 ∧ ¬ (0 < ((fa 20 2) 0).toInt ∧ 0 < ((fa 20 2) 1).toInt))) from (by have hb0 := congrArg Int32.toInt (show v1 = fa 20 2 0 from ev1); have hb1 := congrArg Int32.toInt (show v3 = fa 20 2 1 from ev3); omega))⟩, ht9⟩) (fun q hq => by cases hq) dX2_bothLeft_29
    · have fc4 := z_nle (rfl : (v3).toInt = _) (by decide : (0 : Int32).toInt = 0) c4
      refine lv_iconst (v := 1) hx hb dX2_bothLeft_24 (by decide) ?_
      refine lv_goto (tgt := 29) hx hb dX2_bothLeft_25 (by decide) ?_
      have : (1 : Int32).toInt = 1 := (by decide)
      exact W.zret (v := 1) hx hb hr rfl (fun t ht9 hW => ⟨1, rfl, ⟨⟨by decide, by decide⟩, (show (((1 : Int32).toInt = 1 ∧ (0 < ((fa 20 2) 0).toInt ∧ 0 < ((fa 20 2) 1).toInt)) ∨ ((1 : Int32).toInt = 0 ∧ ¬ (0 < ((fa 20 2) 0).toInt ∧ 0 < ((fa 20 2) 1).toInt))) from (by have hb0 := congrArg Int32.toInt (show v1 = fa 20 2 0 from ev1); have hb1 := congrArg Int32.toInt (show v3 = fa 20 2 1 from ev3); omega))⟩, ht9⟩) (fun q hq => by cases hq) dX2_bothLeft_29
set_option maxHeartbeats 4000000 in
set_option maxRecDepth 100000 in
/-- X2_isParted -/
theorem c_X2_isParted_w (l : Launch) (dC : Nat → ClassId) (dI : Nat → Nat → Nat) (sz : Nat) (h : Nat) (g : Nat → Nat → Nat) (ca : Nat → Nat → ClassId) (iv : Nat → Nat → Int32) (lv : Nat → Nat → Int64) (fa : Nat → Nat → Nat → Int32) (la : Nat → Nat → Nat → Int64) (hI : IX iv fa) : Met l yX2_isParted (wc yX2_isParted cX2_isParted 1 (some .boolean)) ({ frames := 4, cells := 0, slots := 0, locals := 91 } : Room) (pW (dC, dI) classes (WX h g ca iv lv fa la) (TX ca) sz [.ref (g 11 6)]) (va_Qi (fun r (u : SS) => ∃ (na_20_2 : Nat → Int32) (nb_20_0 : Nat → Int64) (nb_20_1 : Nat → Int64), (∀ pt : Int32, pt.toInt = (iv 2 5).toInt → ((r.toInt = 1 ∧ DpR (cxP (fa 10 0) (iv 2 3).toInt (iv 2 4).toInt 0) (cxP (fa 10 0) (iv 2 3).toInt (iv 2 4).toInt 1) (fun s : Nat => (s : Int) = -1) (fun s : Nat => (fa 10 0) (9 * s + 3)) (fun s : Nat => (fa 10 0) (9 * s + 4)) ((iv 10 1).toInt).toNat pt) ∨ (r.toInt = 0 ∧ ¬ DpR (cxP (fa 10 0) (iv 2 3).toInt (iv 2 4).toInt 0) (cxP (fa 10 0) (iv 2 3).toInt (iv 2 4).toInt 1) (fun s : Nat => (s : Int) = -1) (fun s : Nat => (fa 10 0) (9 * s + 3)) (fun s : Nat => (fa 10 0) (9 * s + 4)) ((iv 10 1).toInt).toNat pt))) ∧ (0 ≤ r.toInt ∧ r.toInt ≤ 1) ∧ u = (iv, lv, (u2 fa 20 2 na_20_2), (u2 (u2 la 20 0 nb_20_0) 20 1 nb_20_1))) (bX (dC, dI) h g ca (va_A (WX h g ca iv lv fa la) sz)) (va_A (WX h g ca iv lv fa la) sz)) 0 0 (va_A (WX h g ca iv lv fa la) sz) := by
  refine Met.ofW (cc := cX2_isParted) (maxL := 1) (ret := (some .boolean)) (by decide) rfl ?_
  intro p e s m args below meth c s₁ B hml hv
  obtain ⟨rfl, hsz, hP, hK, hD0⟩ := hv
  have hx := B.exec
  have hb := B.bytes
  have hr := B.returns
  have ht := tb_tl (atoms_spec (ws := wc yX2_isParted cX2_isParted 1 (some .boolean)) B.pre)
  have hown : s.vm.findClass RX2 = some m.cls := findClass_of_methodNamed B.named
  have hlocks := B.notSynchronized
  subst hsz
  have hD := hD0.self (sz := s.heap.size)
  generalize hAe : va_A (WX h g ca iv lv fa la) s.heap.size = A at hD ⊢
  have hA : ∀ q : Nat, s.heap.size ≤ q → A q := fun q h => by rw [← hAe]; exact Or.inr h
  have hS : va_S A s.heap s.heap [] := va_S.rf
  have hl := lv_entry [.ref (g 11 6)] (n := 1) (Nat.le_of_ble_eq_true rfl)
  rw [lg_entry_eq]
  generalize (lg_sl [.ref (g 11 6)] ++ List.replicate (1 - (lg_sl [.ref (g 11 6)]).length) Slot.unset).toArray = ls at hl ⊢
  have hl : lv_has ls 1 [(0, .ref (g 11 6))] := hl
  refine lv_aload_n hx hb dX2_isParted_0 rfl (lv_at hl 0 rfl) ?_
  refine lv_bipush (v := 9) hx hb dX2_isParted_1 (by decide) ?_
  refine lv_iconst (v := (-1)) hx hb dX2_isParted_3 (by decide) ?_
  have i_10_1 : 0 ≤ (iv 10 1).toInt ∧ (iv 10 1).toInt ≤ 60 := hI.1 10 1
  have hFc := free_all hD hS hA
  refine va_calli (va_runV (As := [.int 9, .int (-1)]) (rest := []) ⟨hx, hb, hml, hown, ht⟩ (c_X2_gatherWithout_w9 l dC dI s.heap.size h g ca iv lv fa la hI (-1)) (kV 2 ht m_878 m_880 m_31 m_85 m_881 rfl rfl hd_X2_gatherWithout_v ⟨Nat.le_of_ble_eq_true rfl, Nat.le_of_ble_eq_true rfl⟩) (vW hP hK hD (rX_2 hK hP)) rfl rfl hl.1 rfl (lv_room (Nat.le_of_ble_eq_true rfl)) dX2_isParted_4 ⟨Nat.le_of_ble_eq_true rfl, Nat.le_of_ble_eq_true rfl⟩) hS (fun q _ h => hFc q h) hFc (fun r1 u t H1 locs ht9 hvm hr1 hB hz1 hk1 hS => ?_)
  obtain ⟨n2, n3, n4, xr1_0, xr1_1, hr1, rfl⟩ := hr1
  have hn2 : ∀ j, inb (bA 20 2 j) (n2 j) := fun j => full_i _
  obtain ⟨hP, hD⟩ := hB
  rw [ht9] at hP
  generalize H1 = H at hP hS ⊢
  have hP : va_P (dC, dI) classes (WX h g ca iv lv (u2 fa 20 2 n2) (u2 (u2 la 20 0 n3) 20 1 n4)) H := hP
  have hD : va_D A (WX h g ca iv lv (u2 fa 20 2 n2) (u2 (u2 la 20 0 n3) 20 1 n4)) := (show va_D _ (WX h g ca iv lv (u2 fa 20 2 n2) (u2 (u2 la 20 0 n3) 20 1 n4)) from hD).weaken (fun _ _ _ h => hFc _ h)
  have : ((-1) : Int32).toInt = (-1) := (by decide)
  have xr1_0 : ∀ l : Nat, l < 2 → n3 l = caL (cxP (fa 10 0) ((iv 2 3) : Int32).toInt ((iv 2 4) : Int32).toInt (l : Int)) (fun s : Nat => (s : Int) = ((-1) : Int32).toInt) (fun s : Nat => (fa 10 0) (9 * s + 3)) (((iv 10 1) : Int32).toInt).toNat ∧ n4 l = caL (cxP (fa 10 0) ((iv 2 3) : Int32).toInt ((iv 2 4) : Int32).toInt (l : Int)) (fun s : Nat => (s : Int) = ((-1) : Int32).toInt) (fun s : Nat => (fa 10 0) (9 * s + 4)) (((iv 10 1) : Int32).toInt).toNat ∧ n2 l = caC (cxP (fa 10 0) ((iv 2 3) : Int32).toInt ((iv 2 4) : Int32).toInt (l : Int)) (fun s : Nat => (s : Int) = ((-1) : Int32).toInt) (((iv 10 1) : Int32).toInt).toNat := xr1_0
  have xr1_1 : (r1 : Int32).toInt = (smC (fun s : Nat => ((cxP (fa 10 0) ((iv 2 3) : Int32).toInt ((iv 2 4) : Int32).toInt 0) s ∨ (cxP (fa 10 0) ((iv 2 3) : Int32).toInt ((iv 2 4) : Int32).toInt 1) s) ∧ (fun s : Nat => (s : Int) = ((-1) : Int32).toInt) s) (((iv 10 1) : Int32).toInt).toNat).toInt := xr1_1
  refine lv_pop hx hb dX2_isParted_7 rfl ?_
  refine lv_aload_n hx hb dX2_isParted_8 rfl (lv_at hl 0 rfl) ?_
  refine vp_callSi (W.runV (As := []) (rest := []) ⟨hx, hb, hml, hown, ht⟩ (c_X2_bothLeft_w l dC dI h g ca iv lv (u2 fa 20 2 n2) (u2 (u2 la 20 0 n3) 20 1 n4) (IX_a (c := 20) (k := 2) hI hn2)) (kV 0 ht m_895 m_897 m_34 m_85 m_898 rfl rfl hd_X2_bothLeft_v ⟨Nat.le_of_ble_eq_true rfl, Nat.le_of_ble_eq_true rfl⟩) (vR hP hK (rX_2 hK hP)) rfl rfl hl.1 rfl (lv_room (Nat.le_of_ble_eq_true rfl)) dX2_isParted_9 ⟨Nat.le_of_ble_eq_true rfl, Nat.le_of_ble_eq_true rfl⟩) (fun r5 hr5 => ?_)
  obtain ⟨hr5, xr5_0⟩ := hr5
  have xr5_0 : (((r5 : Int32).toInt = 1 ∧ (0 < (n2 0).toInt ∧ 0 < (n2 1).toInt)) ∨ ((r5 : Int32).toInt = 0 ∧ ¬ (0 < (n2 0).toInt ∧ 0 < (n2 1).toInt))) := xr5_0
  refine lv_if_eq (tgt := 35) hx hb dX2_isParted_12 (by decide) (fun c6 => ?_) (fun c6 => ?_)
  · have fc6 := z_eq (rfl : (r5).toInt = _) (by decide : (0 : Int32).toInt = 0) c6
    refine lv_iconst (v := 0) hx hb dX2_isParted_35 (by decide) ?_
    have : (0 : Int32).toInt = 0 := (by decide)
    have hP9 : va_P (dC, dI) classes (WX h g ca iv lv (u2 fa 20 2 n2) (u2 (u2 la 20 0 n3) 20 1 n4)) H := hP
    have hD9 : va_D A (WX h g ca iv lv (u2 fa 20 2 n2) (u2 (u2 la 20 0 n3) 20 1 n4)) := hD
    exact W.zret (v := 0) hx hb hr rfl (fun t ht9 hW => ⟨⟨0, (iv, lv, (u2 fa 20 2 n2), (u2 (u2 la 20 0 n3) 20 1 n4)), rfl, ⟨n2, n3, n4, (show ∀ pt : Int32, pt.toInt = (iv 2 5).toInt → (((0 : Int32).toInt = 1 ∧ DpR (cxP (fa 10 0) (iv 2 3).toInt (iv 2 4).toInt 0) (cxP (fa 10 0) (iv 2 3).toInt (iv 2 4).toInt 1) (fun s : Nat => (s : Int) = -1) (fun s : Nat => (fa 10 0) (9 * s + 3)) (fun s : Nat => (fa 10 0) (9 * s + 4)) ((iv 10 1).toInt).toNat pt) ∨ ((0 : Int32).toInt = 0 ∧ ¬ DpR (cxP (fa 10 0) (iv 2 3).toInt (iv 2 4).toInt 0) (cxP (fa 10 0) (iv 2 3).toInt (iv 2 4).toInt 1) (fun s : Nat => (s : Int) = -1) (fun s : Nat => (fa 10 0) (9 * s + 3)) (fun s : Nat => (fa 10 0) (9 * s + 4)) ((iv 10 1).toInt).toNat pt)) from (fun pt hpt => by
          have hp9 : pt = iv 2 5 := Int32.toInt_inj.mp hpt
          subst hp9
          have hg0 := xr1_0 0 (by decide)
          have hg1 := xr1_0 1 (by decide)
          have ho9 := xr1_1
          rw [show ((0 : Nat) : Int) = 0 from rfl] at hg0
          rw [show ((1 : Nat) : Int) = 1 from rfl] at hg1
          rw [show (-1 : Int32).toInt = -1 from by decide] at hg0 hg1 ho9
          have hb9 := xr5_0
          have hD9 : DpR (cxP (fa 10 0) (iv 2 3).toInt (iv 2 4).toInt 0) (cxP (fa 10 0) (iv 2 3).toInt (iv 2 4).toInt 1) (fun s : Nat => (s : Int) = -1) (fun s : Nat => (fa 10 0) (9 * s + 3)) (fun s : Nat => (fa 10 0) (9 * s + 4)) ((iv 10 1).toInt).toNat (iv 2 5) ↔ (0 < (n2 0).toInt ∧ 0 < (n2 1).toInt ∧ difL (n4 0) (n3 0) (n4 1) (n3 1) (iv 2 5)) := by unfold DpR; rw [hg0.1, hg0.2.1, hg0.2.2, hg1.1, hg1.2.1, hg1.2.2]
          exact Or.inr ⟨by omega, fun z => by have z1 := hD9.mp z; obtain ⟨z2, z3, -⟩ := z1; omega⟩)), ⟨by decide, by decide⟩, rfl⟩, by rw [ht9]; exact hP9, hD9⟩, hS.F ht9⟩) hS.2.2 dX2_isParted_36
  · have fc6 := z_ne (rfl : (r5).toInt = _) (by decide : (0 : Int32).toInt = 0) c6
    refine lv_aload_n hx hb dX2_isParted_15 rfl (lv_at hl 0 rfl) ?_
    refine gX_2_1 hx hb ht hown hK hP m_305 dX2_isParted_16 ?_
    refine lv_iconst (v := 0) hx hb dX2_isParted_19 (by decide) ?_
    refine lv_iconst (v := 1) hx hb dX2_isParted_20 (by decide) ?_
    refine lv_aload_n hx hb dX2_isParted_21 rfl (lv_at hl 0 rfl) ?_
    refine gX_2_5 hx hb ht hown hK hP m_309 (v := (iv 2 5)) rfl dX2_isParted_22 ?_
    refine vp_callSi (W.runV (As := [.int 0, .int 1, .int (iv 2 5)]) (rest := []) ⟨hx, hb, hml, hown, ht⟩ (c_X7_differ_f20 l dC dI h g ca iv lv (u2 fa 20 2 n2) (u2 (u2 la 20 0 n3) 20 1 n4) (IX_a (c := 20) (k := 2) hI hn2) (iv 2 5)) (kV 3 ht m_899 m_627 m_628 m_84 m_629 rfl rfl hd_X7_differ_v ⟨Nat.le_of_ble_eq_true rfl, Nat.le_of_ble_eq_true rfl⟩) (vR hP hK (rX_20 hK hP)) rfl rfl hl.1 rfl (lv_room (Nat.le_of_ble_eq_true rfl)) dX2_isParted_25 ⟨Nat.le_of_ble_eq_true rfl, Nat.le_of_ble_eq_true rfl⟩) (fun r7 hr7 => ?_)
    obtain ⟨hr7, xr7_0⟩ := hr7
    have xr7_0 : (((r7 : Int32).toInt = 1 ∧ difL (n4 0) (n3 0) (n4 1) (n3 1) ((iv 2 5) : Int32)) ∨ ((r7 : Int32).toInt = 0 ∧ ¬ difL (n4 0) (n3 0) (n4 1) (n3 1) ((iv 2 5) : Int32))) := xr7_0
    refine lv_if_eq (tgt := 35) hx hb dX2_isParted_28 (by decide) (fun c8 => ?_) (fun c8 => ?_)
    · have fc8 := z_eq (rfl : (r7).toInt = _) (by decide : (0 : Int32).toInt = 0) c8
      refine lv_iconst (v := 0) hx hb dX2_isParted_35 (by decide) ?_
      have : (0 : Int32).toInt = 0 := (by decide)
      have hP9 : va_P (dC, dI) classes (WX h g ca iv lv (u2 fa 20 2 n2) (u2 (u2 la 20 0 n3) 20 1 n4)) H := hP
      have hD9 : va_D A (WX h g ca iv lv (u2 fa 20 2 n2) (u2 (u2 la 20 0 n3) 20 1 n4)) := hD
      exact W.zret (v := 0) hx hb hr rfl (fun t ht9 hW => ⟨⟨0, (iv, lv, (u2 fa 20 2 n2), (u2 (u2 la 20 0 n3) 20 1 n4)), rfl, ⟨n2, n3, n4, (show ∀ pt : Int32, pt.toInt = (iv 2 5).toInt → (((0 : Int32).toInt = 1 ∧ DpR (cxP (fa 10 0) (iv 2 3).toInt (iv 2 4).toInt 0) (cxP (fa 10 0) (iv 2 3).toInt (iv 2 4).toInt 1) (fun s : Nat => (s : Int) = -1) (fun s : Nat => (fa 10 0) (9 * s + 3)) (fun s : Nat => (fa 10 0) (9 * s + 4)) ((iv 10 1).toInt).toNat pt) ∨ ((0 : Int32).toInt = 0 ∧ ¬ DpR (cxP (fa 10 0) (iv 2 3).toInt (iv 2 4).toInt 0) (cxP (fa 10 0) (iv 2 3).toInt (iv 2 4).toInt 1) (fun s : Nat => (s : Int) = -1) (fun s : Nat => (fa 10 0) (9 * s + 3)) (fun s : Nat => (fa 10 0) (9 * s + 4)) ((iv 10 1).toInt).toNat pt)) from (fun pt hpt => by
            have hp9 : pt = iv 2 5 := Int32.toInt_inj.mp hpt
            subst hp9
            have hg0 := xr1_0 0 (by decide)
            have hg1 := xr1_0 1 (by decide)
            have ho9 := xr1_1
            rw [show ((0 : Nat) : Int) = 0 from rfl] at hg0
            rw [show ((1 : Nat) : Int) = 1 from rfl] at hg1
            rw [show (-1 : Int32).toInt = -1 from by decide] at hg0 hg1 ho9
            have hb9 := xr5_0
            have hd9 := xr7_0
            have hD9 : DpR (cxP (fa 10 0) (iv 2 3).toInt (iv 2 4).toInt 0) (cxP (fa 10 0) (iv 2 3).toInt (iv 2 4).toInt 1) (fun s : Nat => (s : Int) = -1) (fun s : Nat => (fa 10 0) (9 * s + 3)) (fun s : Nat => (fa 10 0) (9 * s + 4)) ((iv 10 1).toInt).toNat (iv 2 5) ↔ (0 < (n2 0).toInt ∧ 0 < (n2 1).toInt ∧ difL (n4 0) (n3 0) (n4 1) (n3 1) (iv 2 5)) := by unfold DpR; rw [hg0.1, hg0.2.1, hg0.2.2, hg1.1, hg1.2.1, hg1.2.2]
            exact Or.inr ⟨by omega, fun z => (hd9.resolve_left (fun q => by omega)).2 (hD9.mp z).2.2⟩)), ⟨by decide, by decide⟩, rfl⟩, by rw [ht9]; exact hP9, hD9⟩, hS.F ht9⟩) hS.2.2 dX2_isParted_36
    · have fc8 := z_ne (rfl : (r7).toInt = _) (by decide : (0 : Int32).toInt = 0) c8
      refine lv_iconst (v := 1) hx hb dX2_isParted_31 (by decide) ?_
      refine lv_goto (tgt := 36) hx hb dX2_isParted_32 (by decide) ?_
      have : (1 : Int32).toInt = 1 := (by decide)
      have hP9 : va_P (dC, dI) classes (WX h g ca iv lv (u2 fa 20 2 n2) (u2 (u2 la 20 0 n3) 20 1 n4)) H := hP
      have hD9 : va_D A (WX h g ca iv lv (u2 fa 20 2 n2) (u2 (u2 la 20 0 n3) 20 1 n4)) := hD
      exact W.zret (v := 1) hx hb hr rfl (fun t ht9 hW => ⟨⟨1, (iv, lv, (u2 fa 20 2 n2), (u2 (u2 la 20 0 n3) 20 1 n4)), rfl, ⟨n2, n3, n4, (show ∀ pt : Int32, pt.toInt = (iv 2 5).toInt → (((1 : Int32).toInt = 1 ∧ DpR (cxP (fa 10 0) (iv 2 3).toInt (iv 2 4).toInt 0) (cxP (fa 10 0) (iv 2 3).toInt (iv 2 4).toInt 1) (fun s : Nat => (s : Int) = -1) (fun s : Nat => (fa 10 0) (9 * s + 3)) (fun s : Nat => (fa 10 0) (9 * s + 4)) ((iv 10 1).toInt).toNat pt) ∨ ((1 : Int32).toInt = 0 ∧ ¬ DpR (cxP (fa 10 0) (iv 2 3).toInt (iv 2 4).toInt 0) (cxP (fa 10 0) (iv 2 3).toInt (iv 2 4).toInt 1) (fun s : Nat => (s : Int) = -1) (fun s : Nat => (fa 10 0) (9 * s + 3)) (fun s : Nat => (fa 10 0) (9 * s + 4)) ((iv 10 1).toInt).toNat pt)) from (fun pt hpt => by
            have hp9 : pt = iv 2 5 := Int32.toInt_inj.mp hpt
            subst hp9
            have hg0 := xr1_0 0 (by decide)
            have hg1 := xr1_0 1 (by decide)
            have ho9 := xr1_1
            rw [show ((0 : Nat) : Int) = 0 from rfl] at hg0
            rw [show ((1 : Nat) : Int) = 1 from rfl] at hg1
            rw [show (-1 : Int32).toInt = -1 from by decide] at hg0 hg1 ho9
            have hb9 := xr5_0
            have hd9 := xr7_0
            have hD9 : DpR (cxP (fa 10 0) (iv 2 3).toInt (iv 2 4).toInt 0) (cxP (fa 10 0) (iv 2 3).toInt (iv 2 4).toInt 1) (fun s : Nat => (s : Int) = -1) (fun s : Nat => (fa 10 0) (9 * s + 3)) (fun s : Nat => (fa 10 0) (9 * s + 4)) ((iv 10 1).toInt).toNat (iv 2 5) ↔ (0 < (n2 0).toInt ∧ 0 < (n2 1).toInt ∧ difL (n4 0) (n3 0) (n4 1) (n3 1) (iv 2 5)) := by unfold DpR; rw [hg0.1, hg0.2.1, hg0.2.2, hg1.1, hg1.2.1, hg1.2.2]
            exact Or.inl ⟨by omega, hD9.mpr ⟨by omega, by omega, (hd9.resolve_right (fun q => by omega)).2⟩⟩)), ⟨by decide, by decide⟩, rfl⟩, by rw [ht9]; exact hP9, hD9⟩, hS.F ht9⟩) hS.2.2 dX2_isParted_36
set_option maxHeartbeats 4000000 in
set_option maxRecDepth 100000 in
/-- X2_isSuspect -/
theorem c_X2_isSuspect_w (l : Launch) (dC : Nat → ClassId) (dI : Nat → Nat → Nat) (ak av : Nat → Nat) (h : Nat) (g : Nat → Nat → Nat) (ca : Nat → Nat → ClassId) (iv : Nat → Nat → Int32) (lv : Nat → Nat → Int64) (fa : Nat → Nat → Nat → Int32) (la : Nat → Nat → Nat → Int64) (hI : IX iv fa) (a : Int32) (h_a : 0 ≤ a.toInt ∧ a.toInt ≤ 159) : Met l yX2_isSuspect (wc yX2_isSuspect cX2_isSuspect 2 (some .boolean)) ({ frames := 3, cells := 0, slots := 0, locals := 66 } : Room) (pRZ ak av (dC, dI) classes (WX h g ca iv lv fa la) (TX ca) [.ref (g 11 6), .int a]) (vp_Si (fun r => (0 ≤ r.toInt ∧ r.toInt ≤ 1) ∧ (((r.toInt = 1 ∧ SuX (fa 10 0) (iv 2 3).toInt (iv 2 4).toInt a.toInt) ∨ (r.toInt = 0 ∧ ¬ SuX (fa 10 0) (iv 2 3).toInt (iv 2 4).toInt a.toInt))))) 0 0 (fun _ => False) := by
  refine Met.ofW (cc := cX2_isSuspect) (maxL := 2) (ret := (some .boolean)) (by decide) rfl ?_
  intro p e s m args below meth c s₁ B hml hv
  obtain ⟨rfl, hP, hK, hZ⟩ := hv
  have hx := B.exec
  have hb := B.bytes
  have hr := B.returns
  have ht := tb_tl (atoms_spec (ws := wc yX2_isSuspect cX2_isSuspect 2 (some .boolean)) B.pre)
  have hown : s.vm.findClass RX2 = some m.cls := findClass_of_methodNamed B.named
  have hlocks := B.notSynchronized
  have hl := lv_entry [.ref (g 11 6), .int a] (n := 2) (Nat.le_of_ble_eq_true rfl)
  rw [lg_entry_eq]
  generalize (lg_sl [.ref (g 11 6), .int a] ++ List.replicate (2 - (lg_sl [.ref (g 11 6), .int a]).length) Slot.unset).toArray = ls at hl ⊢
  have hl : lv_has ls 2 [(0, .ref (g 11 6)), (1, .int a)] := hl
  refine lv_iload_n hx hb dX2_isSuspect_0 rfl (lv_at hl 1 rfl) ?_
  refine lv_bipush (v := 100) hx hb dX2_isSuspect_1 (by decide) ?_
  refine lv_icmp_ge (tgt := 32) hx hb dX2_isSuspect_3 (by decide) (fun c1 => ?_) (fun c1 => ?_)
  · have fc1 := z_le (by decide : (100 : Int32).toInt = 100) (rfl : (a).toInt = _) c1
    refine lv_aload_n hx hb dX2_isSuspect_32 rfl (lv_at hl 0 rfl) ?_
    refine lv_iload_n hx hb dX2_isSuspect_33 rfl (lv_at hl 1 rfl) ?_
    refine lv_bipush (v := 100) hx hb dX2_isSuspect_34 (by decide) ?_
    refine lv_isub hx hb dX2_isSuspect_36 ?_
    refine lv_topi (fun v2 ev2 => ?_)
    have tv2 := z_sub ev2 (rfl : (a).toInt = _) (by decide : (100 : Int32).toInt = 100) (by omega) (by omega)
    refine vp_callSi (W.runV (As := [.int v2]) (rest := []) ⟨hx, hb, hml, hown, ht⟩ (c_X2_isInDoubt_w l dC dI h g ca iv lv fa la hI v2 ⟨by omega, by omega⟩) (kV 1 ht m_883 m_885 m_32 m_85 m_886 rfl rfl hd_X2_isInDoubt_v ⟨Nat.le_of_ble_eq_true rfl, Nat.le_of_ble_eq_true rfl⟩) (vR hP hK (rX_2 hK hP)) rfl rfl hl.1 rfl (lv_room (Nat.le_of_ble_eq_true rfl)) dX2_isSuspect_37 ⟨Nat.le_of_ble_eq_true rfl, Nat.le_of_ble_eq_true rfl⟩) (fun r3 hr3 => ?_)
    obtain ⟨hr3, xr3_0⟩ := hr3
    have xr3_0 : (((r3 : Int32).toInt = 1 ∧ ((((fa 10 0) (9 * ((v2 : Int32).toInt).toNat + 0)).toInt = ((iv 2 3) : Int32).toInt ∧ ((fa 10 0) (9 * ((v2 : Int32).toInt).toNat + 1)).toInt = 0 ∧ ((fa 10 0) (9 * ((v2 : Int32).toInt).toNat + 7)).toInt ≤ ((iv 2 4) : Int32).toInt ∧ (((fa 10 0) (9 * ((v2 : Int32).toInt).toNat + 8)).toInt = -1 ∨ ((iv 2 4) : Int32).toInt < ((fa 10 0) (9 * ((v2 : Int32).toInt).toNat + 8)).toInt)) ∨ (((fa 10 0) (9 * ((v2 : Int32).toInt).toNat + 0)).toInt = ((iv 2 3) : Int32).toInt ∧ ((fa 10 0) (9 * ((v2 : Int32).toInt).toNat + 1)).toInt = 1 ∧ ((fa 10 0) (9 * ((v2 : Int32).toInt).toNat + 7)).toInt ≤ ((iv 2 4) : Int32).toInt ∧ (((fa 10 0) (9 * ((v2 : Int32).toInt).toNat + 8)).toInt = -1 ∨ ((iv 2 4) : Int32).toInt < ((fa 10 0) (9 * ((v2 : Int32).toInt).toNat + 8)).toInt)))) ∨ ((r3 : Int32).toInt = 0 ∧ ¬ ((((fa 10 0) (9 * ((v2 : Int32).toInt).toNat + 0)).toInt = ((iv 2 3) : Int32).toInt ∧ ((fa 10 0) (9 * ((v2 : Int32).toInt).toNat + 1)).toInt = 0 ∧ ((fa 10 0) (9 * ((v2 : Int32).toInt).toNat + 7)).toInt ≤ ((iv 2 4) : Int32).toInt ∧ (((fa 10 0) (9 * ((v2 : Int32).toInt).toNat + 8)).toInt = -1 ∨ ((iv 2 4) : Int32).toInt < ((fa 10 0) (9 * ((v2 : Int32).toInt).toNat + 8)).toInt)) ∨ (((fa 10 0) (9 * ((v2 : Int32).toInt).toNat + 0)).toInt = ((iv 2 3) : Int32).toInt ∧ ((fa 10 0) (9 * ((v2 : Int32).toInt).toNat + 1)).toInt = 1 ∧ ((fa 10 0) (9 * ((v2 : Int32).toInt).toNat + 7)).toInt ≤ ((iv 2 4) : Int32).toInt ∧ (((fa 10 0) (9 * ((v2 : Int32).toInt).toNat + 8)).toInt = -1 ∨ ((iv 2 4) : Int32).toInt < ((fa 10 0) (9 * ((v2 : Int32).toInt).toNat + 8)).toInt))))) := xr3_0
    exact W.zret (v := r3) hx hb hr (nar01 ⟨by omega, by omega⟩) (fun t ht9 hW => ⟨r3, rfl, ⟨⟨by omega, by omega⟩, (show (((r3 : Int32).toInt = 1 ∧ SuX (fa 10 0) (iv 2 3).toInt (iv 2 4).toInt (a).toInt) ∨ ((r3 : Int32).toInt = 0 ∧ ¬ SuX (fa 10 0) (iv 2 3).toInt (iv 2 4).toInt (a).toInt)) from (by have hy9 := xr3_0; rw [show ((v2 : Int32).toInt).toNat = (a.toInt).toNat - 100 from by omega] at hy9; rcases hy9 with ⟨y1, y2⟩ | ⟨y1, y2⟩; exact Or.inl ⟨y1, Or.inr (Or.inr ⟨by omega, y2⟩)⟩; exact Or.inr ⟨y1, fun z => z.elim (fun q => by omega) (fun z2 => z2.elim (fun q => by omega) (fun q => y2 q.2))⟩))⟩, ht9⟩) (fun q hq => by cases hq) dX2_isSuspect_40
  · have fc1 := z_nle (by decide : (100 : Int32).toInt = 100) (rfl : (a).toInt = _) c1
    refine lv_iload_n hx hb dX2_isSuspect_6 rfl (lv_at hl 1 rfl) ?_
    refine lv_iconst (v := 0) hx hb dX2_isSuspect_7 (by decide) ?_
    refine lv_iconst (v := 3) hx hb dX2_isSuspect_8 (by decide) ?_
    refine vp_callSi (run_of (va_runSN (As := [.int a, .int 0, .int 3]) (rest := []) ⟨hx, hb, hml, hown, ht⟩ (c_X11_within l dC dI a 0 3 (a.toInt) (0) (3) (rfl : (a).toInt = _) (by decide : (0 : Int32).toInt = 0) (by decide : (3 : Int32).toInt = 3)) ⟨va_cnB 3 ht (tb_wc m_455) rfl rfl rfl hZ.2.2.2.2.2.2 (ht _ m_77) hd_X11_within_i ⟨Nat.le_of_ble_eq_true rfl, Nat.le_of_ble_eq_true rfl⟩, ht _ m_454, trivial⟩ (sR noP (hK.sub (tys' := []) [] rfl)) rfl rfl hl.1 rfl (lv_room (Nat.le_of_ble_eq_true rfl)) dX2_isSuspect_9 ⟨Nat.le_of_ble_eq_true rfl, Nat.le_of_ble_eq_true rfl⟩)) (fun r4 hr4 => ?_)
    rcases hr4 with ⟨rfl, fr4⟩ | ⟨rfl, fr4⟩
    · skip
      refine lv_if_ne (tgt := 26) hx hb dX2_isSuspect_12 (by decide) (fun c5 => ?_) (fun c5 => ?_)
      · skip
        refine lv_iconst (v := 1) hx hb dX2_isSuspect_26 (by decide) ?_
        refine lv_goto (tgt := 31) hx hb dX2_isSuspect_27 (by decide) ?_
        have : (1 : Int32).toInt = 1 := (by decide)
        exact W.zret (v := 1) hx hb hr rfl (fun t ht9 hW => ⟨1, rfl, ⟨⟨by decide, by decide⟩, (show (((1 : Int32).toInt = 1 ∧ SuX (fa 10 0) (iv 2 3).toInt (iv 2 4).toInt (a).toInt) ∨ ((1 : Int32).toInt = 0 ∧ ¬ SuX (fa 10 0) (iv 2 3).toInt (iv 2 4).toInt (a).toInt)) from Or.inl ⟨by omega, (show (a.toInt < 4 ∨ (10 ≤ a.toInt ∧ a.toInt < 18) ∨ (100 ≤ a.toInt ∧ ((((fa 10 0) (9 * ((a.toInt).toNat - 100) + 0)).toInt = (iv 2 3).toInt ∧ ((fa 10 0) (9 * ((a.toInt).toNat - 100) + 1)).toInt = 0 ∧ ((fa 10 0) (9 * ((a.toInt).toNat - 100) + 7)).toInt ≤ (iv 2 4).toInt ∧ (((fa 10 0) (9 * ((a.toInt).toNat - 100) + 8)).toInt = -1 ∨ (iv 2 4).toInt < ((fa 10 0) (9 * ((a.toInt).toNat - 100) + 8)).toInt)) ∨ (((fa 10 0) (9 * ((a.toInt).toNat - 100) + 0)).toInt = (iv 2 3).toInt ∧ ((fa 10 0) (9 * ((a.toInt).toNat - 100) + 1)).toInt = 1 ∧ ((fa 10 0) (9 * ((a.toInt).toNat - 100) + 7)).toInt ≤ (iv 2 4).toInt ∧ (((fa 10 0) (9 * ((a.toInt).toNat - 100) + 8)).toInt = -1 ∨ (iv 2 4).toInt < ((fa 10 0) (9 * ((a.toInt).toNat - 100) + 8)).toInt))))) from by omega)⟩)⟩, ht9⟩) (fun q hq => by cases hq) dX2_isSuspect_31
      · exact absurd c5 (by decide)
    · skip
      refine lv_if_ne (tgt := 26) hx hb dX2_isSuspect_12 (by decide) (fun c6 => ?_) (fun c6 => ?_)
      · exact absurd rfl c6
      · skip
        refine lv_iload_n hx hb dX2_isSuspect_15 rfl (lv_at hl 1 rfl) ?_
        refine lv_bipush (v := 10) hx hb dX2_isSuspect_16 (by decide) ?_
        refine lv_bipush (v := 17) hx hb dX2_isSuspect_18 (by decide) ?_
        refine vp_callSi (run_of (va_runSN (As := [.int a, .int 10, .int 17]) (rest := []) ⟨hx, hb, hml, hown, ht⟩ (c_X11_within l dC dI a 10 17 (a.toInt) (10) (17) (rfl : (a).toInt = _) (by decide : (10 : Int32).toInt = 10) (by decide : (17 : Int32).toInt = 17)) ⟨va_cnB 3 ht (tb_wc m_455) rfl rfl rfl hZ.2.2.2.2.2.2 (ht _ m_77) hd_X11_within_i ⟨Nat.le_of_ble_eq_true rfl, Nat.le_of_ble_eq_true rfl⟩, ht _ m_454, trivial⟩ (sR noP (hK.sub (tys' := []) [] rfl)) rfl rfl hl.1 rfl (lv_room (Nat.le_of_ble_eq_true rfl)) dX2_isSuspect_20 ⟨Nat.le_of_ble_eq_true rfl, Nat.le_of_ble_eq_true rfl⟩)) (fun r7 hr7 => ?_)
        rcases hr7 with ⟨rfl, fr7⟩ | ⟨rfl, fr7⟩
        · skip
          refine lv_if_eq (tgt := 30) hx hb dX2_isSuspect_23 (by decide) (fun c8 => ?_) (fun c8 => ?_)
          · exact absurd c8 (by decide)
          · skip
            refine lv_iconst (v := 1) hx hb dX2_isSuspect_26 (by decide) ?_
            refine lv_goto (tgt := 31) hx hb dX2_isSuspect_27 (by decide) ?_
            have : (1 : Int32).toInt = 1 := (by decide)
            exact W.zret (v := 1) hx hb hr rfl (fun t ht9 hW => ⟨1, rfl, ⟨⟨by decide, by decide⟩, (show (((1 : Int32).toInt = 1 ∧ SuX (fa 10 0) (iv 2 3).toInt (iv 2 4).toInt (a).toInt) ∨ ((1 : Int32).toInt = 0 ∧ ¬ SuX (fa 10 0) (iv 2 3).toInt (iv 2 4).toInt (a).toInt)) from Or.inl ⟨by omega, (show (a.toInt < 4 ∨ (10 ≤ a.toInt ∧ a.toInt < 18) ∨ (100 ≤ a.toInt ∧ ((((fa 10 0) (9 * ((a.toInt).toNat - 100) + 0)).toInt = (iv 2 3).toInt ∧ ((fa 10 0) (9 * ((a.toInt).toNat - 100) + 1)).toInt = 0 ∧ ((fa 10 0) (9 * ((a.toInt).toNat - 100) + 7)).toInt ≤ (iv 2 4).toInt ∧ (((fa 10 0) (9 * ((a.toInt).toNat - 100) + 8)).toInt = -1 ∨ (iv 2 4).toInt < ((fa 10 0) (9 * ((a.toInt).toNat - 100) + 8)).toInt)) ∨ (((fa 10 0) (9 * ((a.toInt).toNat - 100) + 0)).toInt = (iv 2 3).toInt ∧ ((fa 10 0) (9 * ((a.toInt).toNat - 100) + 1)).toInt = 1 ∧ ((fa 10 0) (9 * ((a.toInt).toNat - 100) + 7)).toInt ≤ (iv 2 4).toInt ∧ (((fa 10 0) (9 * ((a.toInt).toNat - 100) + 8)).toInt = -1 ∨ (iv 2 4).toInt < ((fa 10 0) (9 * ((a.toInt).toNat - 100) + 8)).toInt))))) from by omega)⟩)⟩, ht9⟩) (fun q hq => by cases hq) dX2_isSuspect_31
        · skip
          refine lv_if_eq (tgt := 30) hx hb dX2_isSuspect_23 (by decide) (fun c9 => ?_) (fun c9 => ?_)
          · skip
            refine lv_iconst (v := 0) hx hb dX2_isSuspect_30 (by decide) ?_
            have : (0 : Int32).toInt = 0 := (by decide)
            exact W.zret (v := 0) hx hb hr rfl (fun t ht9 hW => ⟨0, rfl, ⟨⟨by decide, by decide⟩, (show (((0 : Int32).toInt = 1 ∧ SuX (fa 10 0) (iv 2 3).toInt (iv 2 4).toInt (a).toInt) ∨ ((0 : Int32).toInt = 0 ∧ ¬ SuX (fa 10 0) (iv 2 3).toInt (iv 2 4).toInt (a).toInt)) from Or.inr ⟨by omega, (show ¬ ((a.toInt < 4 ∨ (10 ≤ a.toInt ∧ a.toInt < 18) ∨ (100 ≤ a.toInt ∧ ((((fa 10 0) (9 * ((a.toInt).toNat - 100) + 0)).toInt = (iv 2 3).toInt ∧ ((fa 10 0) (9 * ((a.toInt).toNat - 100) + 1)).toInt = 0 ∧ ((fa 10 0) (9 * ((a.toInt).toNat - 100) + 7)).toInt ≤ (iv 2 4).toInt ∧ (((fa 10 0) (9 * ((a.toInt).toNat - 100) + 8)).toInt = -1 ∨ (iv 2 4).toInt < ((fa 10 0) (9 * ((a.toInt).toNat - 100) + 8)).toInt)) ∨ (((fa 10 0) (9 * ((a.toInt).toNat - 100) + 0)).toInt = (iv 2 3).toInt ∧ ((fa 10 0) (9 * ((a.toInt).toNat - 100) + 1)).toInt = 1 ∧ ((fa 10 0) (9 * ((a.toInt).toNat - 100) + 7)).toInt ≤ (iv 2 4).toInt ∧ (((fa 10 0) (9 * ((a.toInt).toNat - 100) + 8)).toInt = -1 ∨ (iv 2 4).toInt < ((fa 10 0) (9 * ((a.toInt).toNat - 100) + 8)).toInt)))))) from by omega)⟩)⟩, ht9⟩) (fun q hq => by cases hq) dX2_isSuspect_31
          · exact absurd rfl c9
set_option maxHeartbeats 4000000 in
set_option maxRecDepth 100000 in
/-- X2_agreeWithout -/
theorem c_X2_agreeWithout_w (l : Launch) (dC : Nat → ClassId) (dI : Nat → Nat → Nat) (sz : Nat) (h : Nat) (g : Nat → Nat → Nat) (ca : Nat → Nat → ClassId) (iv : Nat → Nat → Int32) (lv : Nat → Nat → Int64) (fa : Nat → Nat → Nat → Int32) (la : Nat → Nat → Nat → Int64) (hI : IX iv fa) (a : Int32) (h_a : 0 ≤ a.toInt ∧ a.toInt ≤ 159) : Met l yX2_agreeWithout (wc yX2_agreeWithout cX2_agreeWithout 4 (some .boolean)) ({ frames := 4, cells := 0, slots := 0, locals := 91 } : Room) (pW (dC, dI) classes (WX h g ca iv lv fa la) (TX ca) sz [.ref (g 11 6), .int a]) (va_Qi (fun r (u : SS) => ∃ (na_20_2 : Nat → Int32) (nb_20_0 : Nat → Int64) (nb_20_1 : Nat → Int64), (∀ pt : Int32, pt.toInt = (iv 2 5).toInt → ((r.toInt = 1 ∧ AgR (cxP (fa 10 0) (iv 2 3).toInt (iv 2 4).toInt 0) (cxP (fa 10 0) (iv 2 3).toInt (iv 2 4).toInt 1) (owX (fa 10 0) a.toInt) (fun s : Nat => (fa 10 0) (9 * s + 3)) (fun s : Nat => (fa 10 0) (9 * s + 4)) ((iv 10 1).toInt).toNat (caF a.toInt) pt) ∨ (r.toInt = 0 ∧ ¬ AgR (cxP (fa 10 0) (iv 2 3).toInt (iv 2 4).toInt 0) (cxP (fa 10 0) (iv 2 3).toInt (iv 2 4).toInt 1) (owX (fa 10 0) a.toInt) (fun s : Nat => (fa 10 0) (9 * s + 3)) (fun s : Nat => (fa 10 0) (9 * s + 4)) ((iv 10 1).toInt).toNat (caF a.toInt) pt))) ∧ (0 ≤ r.toInt ∧ r.toInt ≤ 1) ∧ u = (iv, lv, (u2 fa 20 2 na_20_2), (u2 (u2 la 20 0 nb_20_0) 20 1 nb_20_1))) (bX (dC, dI) h g ca (va_A (WX h g ca iv lv fa la) sz)) (va_A (WX h g ca iv lv fa la) sz)) 0 0 (va_A (WX h g ca iv lv fa la) sz) := by
  refine Met.ofW (cc := cX2_agreeWithout) (maxL := 4) (ret := (some .boolean)) (by decide) rfl ?_
  intro p e s m args below meth c s₁ B hml hv
  obtain ⟨rfl, hsz, hP, hK, hD0⟩ := hv
  have hx := B.exec
  have hb := B.bytes
  have hr := B.returns
  have ht := tb_tl (atoms_spec (ws := wc yX2_agreeWithout cX2_agreeWithout 4 (some .boolean)) B.pre)
  have hown : s.vm.findClass RX2 = some m.cls := findClass_of_methodNamed B.named
  have hlocks := B.notSynchronized
  subst hsz
  have hD := hD0.self (sz := s.heap.size)
  generalize hAe : va_A (WX h g ca iv lv fa la) s.heap.size = A at hD ⊢
  have hA : ∀ q : Nat, s.heap.size ≤ q → A q := fun q h => by rw [← hAe]; exact Or.inr h
  have hS : va_S A s.heap s.heap [] := va_S.rf
  have hl := lv_entry [.ref (g 11 6), .int a] (n := 4) (Nat.le_of_ble_eq_true rfl)
  rw [lg_entry_eq]
  generalize (lg_sl [.ref (g 11 6), .int a] ++ List.replicate (4 - (lg_sl [.ref (g 11 6), .int a]).length) Slot.unset).toArray = ls at hl ⊢
  have hl : lv_has ls 4 [(0, .ref (g 11 6)), (1, .int a)] := hl
  refine lv_iconst (v := 2) hx hb dX2_agreeWithout_0 (by decide) ?_
  refine lv_istore_n (lv' := [(3, .int 2), (0, .ref (g 11 6)), (1, .int a)]) hx hb dX2_agreeWithout_1 rfl hl (by decide) rfl (fun ls hl => ?_)
  refine lv_iload_n hx hb dX2_agreeWithout_2 rfl (lv_at hl 2 rfl) ?_
  refine lv_bipush (v := 10) hx hb dX2_agreeWithout_3 (by decide) ?_
  refine lv_icmp_ge (tgt := 18) hx hb dX2_agreeWithout_5 (by decide) (fun c1 => ?_) (fun c1 => ?_)
  · have fc1 := z_le (by decide : (10 : Int32).toInt = 10) (rfl : (a).toInt = _) c1
    refine lv_iload_n hx hb dX2_agreeWithout_18 rfl (lv_at hl 2 rfl) ?_
    refine lv_bipush (v := 100) hx hb dX2_agreeWithout_19 (by decide) ?_
    refine lv_icmp_ge (tgt := 38) hx hb dX2_agreeWithout_21 (by decide) (fun c2 => ?_) (fun c2 => ?_)
    · have fc2 := z_le (by decide : (100 : Int32).toInt = 100) (rfl : (a).toInt = _) c2
      refine lv_aload_n hx hb dX2_agreeWithout_38 rfl (lv_at hl 1 rfl) ?_
      refine lv_bipush (v := 9) hx hb dX2_agreeWithout_39 (by decide) ?_
      refine lv_iload_n hx hb dX2_agreeWithout_41 rfl (lv_at hl 2 rfl) ?_
      refine lv_bipush (v := 100) hx hb dX2_agreeWithout_42 (by decide) ?_
      refine lv_isub hx hb dX2_agreeWithout_44 ?_
      refine lv_topi (fun v3 ev3 => ?_)
      have tv3 := z_sub ev3 (rfl : (a).toInt = _) (by decide : (100 : Int32).toInt = 100) (by omega) (by omega)
      have i_10_1 : 0 ≤ (iv 10 1).toInt ∧ (iv 10 1).toInt ≤ 60 := hI.1 10 1
      have hFc := free_all hD hS hA
      refine va_calli (va_runV (As := [.int 9, .int v3]) (rest := []) ⟨hx, hb, hml, hown, ht⟩ (c_X2_gatherWithout_w9 l dC dI s.heap.size h g ca iv lv fa la hI v3) (kV 2 ht m_878 m_880 m_31 m_85 m_881 rfl rfl hd_X2_gatherWithout_v ⟨Nat.le_of_ble_eq_true rfl, Nat.le_of_ble_eq_true rfl⟩) (vW hP hK hD (rX_2 hK hP)) rfl rfl hl.1 rfl (lv_room (Nat.le_of_ble_eq_true rfl)) dX2_agreeWithout_45 ⟨Nat.le_of_ble_eq_true rfl, Nat.le_of_ble_eq_true rfl⟩) hS (fun q _ h => hFc q h) hFc (fun r4 u t H1 locs ht9 hvm hr4 hB hz1 hk1 hS => ?_)
      obtain ⟨n5, n6, n7, xr4_0, xr4_1, hr4, rfl⟩ := hr4
      have hn5 : ∀ j, inb (bA 20 2 j) (n5 j) := fun j => full_i _
      obtain ⟨hP, hD⟩ := hB
      rw [ht9] at hP
      generalize H1 = H at hP hS ⊢
      have hP : va_P (dC, dI) classes (WX h g ca iv lv (u2 fa 20 2 n5) (u2 (u2 la 20 0 n6) 20 1 n7)) H := hP
      have hD : va_D A (WX h g ca iv lv (u2 fa 20 2 n5) (u2 (u2 la 20 0 n6) 20 1 n7)) := (show va_D _ (WX h g ca iv lv (u2 fa 20 2 n5) (u2 (u2 la 20 0 n6) 20 1 n7)) from hD).weaken (fun _ _ _ h => hFc _ h)
      have xr4_0 : ∀ l : Nat, l < 2 → n6 l = caL (cxP (fa 10 0) ((iv 2 3) : Int32).toInt ((iv 2 4) : Int32).toInt (l : Int)) (fun s : Nat => (s : Int) = (v3 : Int32).toInt) (fun s : Nat => (fa 10 0) (9 * s + 3)) (((iv 10 1) : Int32).toInt).toNat ∧ n7 l = caL (cxP (fa 10 0) ((iv 2 3) : Int32).toInt ((iv 2 4) : Int32).toInt (l : Int)) (fun s : Nat => (s : Int) = (v3 : Int32).toInt) (fun s : Nat => (fa 10 0) (9 * s + 4)) (((iv 10 1) : Int32).toInt).toNat ∧ n5 l = caC (cxP (fa 10 0) ((iv 2 3) : Int32).toInt ((iv 2 4) : Int32).toInt (l : Int)) (fun s : Nat => (s : Int) = (v3 : Int32).toInt) (((iv 10 1) : Int32).toInt).toNat := xr4_0
      have xr4_1 : (r4 : Int32).toInt = (smC (fun s : Nat => ((cxP (fa 10 0) ((iv 2 3) : Int32).toInt ((iv 2 4) : Int32).toInt 0) s ∨ (cxP (fa 10 0) ((iv 2 3) : Int32).toInt ((iv 2 4) : Int32).toInt 1) s) ∧ (fun s : Nat => (s : Int) = (v3 : Int32).toInt) s) (((iv 10 1) : Int32).toInt).toNat).toInt := xr4_1
      refine lv_istore_n (lv' := [(2, .int r4), (3, .int 2), (0, .ref (g 11 6)), (1, .int a)]) hx hb dX2_agreeWithout_48 rfl hl (by decide) rfl (fun ls hl => ?_)
      refine lv_iconst (v := 1) hx hb dX2_agreeWithout_49 (by decide) ?_
      refine lv_istore_n (lv' := [(3, .int 1), (2, .int r4), (0, .ref (g 11 6)), (1, .int a)]) hx hb dX2_agreeWithout_50 rfl hl (by decide) rfl (fun ls hl => ?_)
      refine lv_iload_n hx hb dX2_agreeWithout_51 rfl (lv_at hl 1 rfl) ?_
      refine lv_iload_n hx hb dX2_agreeWithout_52 rfl (lv_at hl 0 rfl) ?_
      refine lv_icmp_lt (tgt := 83) hx hb dX2_agreeWithout_53 (by decide) (fun c8 => ?_) (fun c8 => ?_)
      · have fc8 := z_lt (rfl : (r4).toInt = _) (by decide : (1 : Int32).toInt = 1) c8
        refine lv_iconst (v := 0) hx hb dX2_agreeWithout_83 (by decide) ?_
        have : (0 : Int32).toInt = 0 := (by decide)
        have hP9 : va_P (dC, dI) classes (WX h g ca iv lv (u2 fa 20 2 n5) (u2 (u2 la 20 0 n6) 20 1 n7)) H := hP
        have hD9 : va_D A (WX h g ca iv lv (u2 fa 20 2 n5) (u2 (u2 la 20 0 n6) 20 1 n7)) := hD
        exact W.zret (v := 0) hx hb hr rfl (fun t ht9 hW => ⟨⟨0, (iv, lv, (u2 fa 20 2 n5), (u2 (u2 la 20 0 n6) 20 1 n7)), rfl, ⟨n5, n6, n7, (show ∀ pt : Int32, pt.toInt = (iv 2 5).toInt → (((0 : Int32).toInt = 1 ∧ AgR (cxP (fa 10 0) (iv 2 3).toInt (iv 2 4).toInt 0) (cxP (fa 10 0) (iv 2 3).toInt (iv 2 4).toInt 1) (owX (fa 10 0) (a).toInt) (fun s : Nat => (fa 10 0) (9 * s + 3)) (fun s : Nat => (fa 10 0) (9 * s + 4)) ((iv 10 1).toInt).toNat (caF (a).toInt) pt) ∨ ((0 : Int32).toInt = 0 ∧ ¬ AgR (cxP (fa 10 0) (iv 2 3).toInt (iv 2 4).toInt 0) (cxP (fa 10 0) (iv 2 3).toInt (iv 2 4).toInt 1) (owX (fa 10 0) (a).toInt) (fun s : Nat => (fa 10 0) (9 * s + 3)) (fun s : Nat => (fa 10 0) (9 * s + 4)) ((iv 10 1).toInt).toNat (caF (a).toInt) pt)) from (fun pt hpt => by
              have hp9 : pt = iv 2 5 := Int32.toInt_inj.mp hpt
              subst hp9
              have hm9 : ((iv 10 1).toInt).toNat ≤ 60 := by have q9 : 0 ≤ (iv 10 1).toInt ∧ (iv 10 1).toInt ≤ 60 := hI.1 10 1; omega
              have hg0 := xr4_0 0 (by decide)
              have hg1 := xr4_0 1 (by decide)
              have ho9 := xr4_1
              rw [show ((0 : Nat) : Int) = 0 from rfl] at hg0
              rw [show ((1 : Nat) : Int) = 1 from rfl] at hg1
              have hf9 : caF a.toInt = 1 := if_neg (by omega)
              have hA9 := Ag_cl (few := 1) (p := iv 2 5) hm9 (cxP_d (rw_ := fa 10 0) (b := (iv 2 3).toInt) (d := (iv 2 4).toInt)) hg0 hg1 ho9
              have hB9 := AgR_cg (few := 1) (p := iv 2 5) (P0 := (cxP (fa 10 0) (iv 2 3).toInt (iv 2 4).toInt 0)) (P1 := (cxP (fa 10 0) (iv 2 3).toInt (iv 2 4).toInt 1)) (ra := (fun s : Nat => (fa 10 0) (9 * s + 3))) (dr := (fun s : Nat => (fa 10 0) (9 * s + 4))) (n := ((iv 10 1).toInt).toNat) (fun s _ => Iff.rfl) (fun s _ => Iff.rfl) (fun s _ => (owX_9 (rw_ := fa 10 0) (c := a.toInt) (v := (v3 : Int32).toInt) (by omega) (by omega)) s) (fun s _ => rfl) (fun s _ => rfl)
              rw [hf9]
              exact Or.inr ⟨by omega, fun z => by have z1 := hA9.mpr (hB9.mpr z); obtain ⟨z2, z3, z4, -⟩ := z1; omega⟩)), ⟨by decide, by decide⟩, rfl⟩, by rw [ht9]; exact hP9, hD9⟩, hS.F ht9⟩) hS.2.2 dX2_agreeWithout_84
      · have fc8 := z_nlt (rfl : (r4).toInt = _) (by decide : (1 : Int32).toInt = 1) c8
        refine lv_aload_n hx hb dX2_agreeWithout_56 rfl (lv_at hl 2 rfl) ?_
        refine vp_callSi (W.runV (As := []) (rest := []) ⟨hx, hb, hml, hown, ht⟩ (c_X2_bothLeft_w l dC dI h g ca iv lv (u2 fa 20 2 n5) (u2 (u2 la 20 0 n6) 20 1 n7) (IX_a (c := 20) (k := 2) hI hn5)) (kV 0 ht m_895 m_897 m_34 m_85 m_898 rfl rfl hd_X2_bothLeft_v ⟨Nat.le_of_ble_eq_true rfl, Nat.le_of_ble_eq_true rfl⟩) (vR hP hK (rX_2 hK hP)) rfl rfl hl.1 rfl (lv_room (Nat.le_of_ble_eq_true rfl)) dX2_agreeWithout_57 ⟨Nat.le_of_ble_eq_true rfl, Nat.le_of_ble_eq_true rfl⟩) (fun r9 hr9 => ?_)
        obtain ⟨hr9, xr9_0⟩ := hr9
        have xr9_0 : (((r9 : Int32).toInt = 1 ∧ (0 < (n5 0).toInt ∧ 0 < (n5 1).toInt)) ∨ ((r9 : Int32).toInt = 0 ∧ ¬ (0 < (n5 0).toInt ∧ 0 < (n5 1).toInt))) := xr9_0
        refine lv_if_eq (tgt := 83) hx hb dX2_agreeWithout_60 (by decide) (fun c10 => ?_) (fun c10 => ?_)
        · have fc10 := z_eq (rfl : (r9).toInt = _) (by decide : (0 : Int32).toInt = 0) c10
          refine lv_iconst (v := 0) hx hb dX2_agreeWithout_83 (by decide) ?_
          have : (0 : Int32).toInt = 0 := (by decide)
          have hP9 : va_P (dC, dI) classes (WX h g ca iv lv (u2 fa 20 2 n5) (u2 (u2 la 20 0 n6) 20 1 n7)) H := hP
          have hD9 : va_D A (WX h g ca iv lv (u2 fa 20 2 n5) (u2 (u2 la 20 0 n6) 20 1 n7)) := hD
          exact W.zret (v := 0) hx hb hr rfl (fun t ht9 hW => ⟨⟨0, (iv, lv, (u2 fa 20 2 n5), (u2 (u2 la 20 0 n6) 20 1 n7)), rfl, ⟨n5, n6, n7, (show ∀ pt : Int32, pt.toInt = (iv 2 5).toInt → (((0 : Int32).toInt = 1 ∧ AgR (cxP (fa 10 0) (iv 2 3).toInt (iv 2 4).toInt 0) (cxP (fa 10 0) (iv 2 3).toInt (iv 2 4).toInt 1) (owX (fa 10 0) (a).toInt) (fun s : Nat => (fa 10 0) (9 * s + 3)) (fun s : Nat => (fa 10 0) (9 * s + 4)) ((iv 10 1).toInt).toNat (caF (a).toInt) pt) ∨ ((0 : Int32).toInt = 0 ∧ ¬ AgR (cxP (fa 10 0) (iv 2 3).toInt (iv 2 4).toInt 0) (cxP (fa 10 0) (iv 2 3).toInt (iv 2 4).toInt 1) (owX (fa 10 0) (a).toInt) (fun s : Nat => (fa 10 0) (9 * s + 3)) (fun s : Nat => (fa 10 0) (9 * s + 4)) ((iv 10 1).toInt).toNat (caF (a).toInt) pt)) from (fun pt hpt => by
                have hp9 : pt = iv 2 5 := Int32.toInt_inj.mp hpt
                subst hp9
                have hm9 : ((iv 10 1).toInt).toNat ≤ 60 := by have q9 : 0 ≤ (iv 10 1).toInt ∧ (iv 10 1).toInt ≤ 60 := hI.1 10 1; omega
                have hg0 := xr4_0 0 (by decide)
                have hg1 := xr4_0 1 (by decide)
                have ho9 := xr4_1
                rw [show ((0 : Nat) : Int) = 0 from rfl] at hg0
                rw [show ((1 : Nat) : Int) = 1 from rfl] at hg1
                have hf9 : caF a.toInt = 1 := if_neg (by omega)
                have hA9 := Ag_cl (few := 1) (p := iv 2 5) hm9 (cxP_d (rw_ := fa 10 0) (b := (iv 2 3).toInt) (d := (iv 2 4).toInt)) hg0 hg1 ho9
                have hB9 := AgR_cg (few := 1) (p := iv 2 5) (P0 := (cxP (fa 10 0) (iv 2 3).toInt (iv 2 4).toInt 0)) (P1 := (cxP (fa 10 0) (iv 2 3).toInt (iv 2 4).toInt 1)) (ra := (fun s : Nat => (fa 10 0) (9 * s + 3))) (dr := (fun s : Nat => (fa 10 0) (9 * s + 4))) (n := ((iv 10 1).toInt).toNat) (fun s _ => Iff.rfl) (fun s _ => Iff.rfl) (fun s _ => (owX_9 (rw_ := fa 10 0) (c := a.toInt) (v := (v3 : Int32).toInt) (by omega) (by omega)) s) (fun s _ => rfl) (fun s _ => rfl)
                rw [hf9]
                have hb9 := xr9_0
                exact Or.inr ⟨by omega, fun z => by have z1 := hA9.mpr (hB9.mpr z); obtain ⟨z2, z3, z4, -⟩ := z1; omega⟩)), ⟨by decide, by decide⟩, rfl⟩, by rw [ht9]; exact hP9, hD9⟩, hS.F ht9⟩) hS.2.2 dX2_agreeWithout_84
        · have fc10 := z_ne (rfl : (r9).toInt = _) (by decide : (0 : Int32).toInt = 0) c10
          refine lv_aload_n hx hb dX2_agreeWithout_63 rfl (lv_at hl 2 rfl) ?_
          refine gX_2_1 hx hb ht hown hK hP m_305 dX2_agreeWithout_64 ?_
          refine lv_iconst (v := 0) hx hb dX2_agreeWithout_67 (by decide) ?_
          refine lv_iconst (v := 1) hx hb dX2_agreeWithout_68 (by decide) ?_
          refine lv_aload_n hx hb dX2_agreeWithout_69 rfl (lv_at hl 2 rfl) ?_
          refine gX_2_5 hx hb ht hown hK hP m_309 (v := (iv 2 5)) rfl dX2_agreeWithout_70 ?_
          refine vp_callSi (W.runV (As := [.int 0, .int 1, .int (iv 2 5)]) (rest := []) ⟨hx, hb, hml, hown, ht⟩ (c_X7_differ_f20 l dC dI h g ca iv lv (u2 fa 20 2 n5) (u2 (u2 la 20 0 n6) 20 1 n7) (IX_a (c := 20) (k := 2) hI hn5) (iv 2 5)) (kV 3 ht m_899 m_627 m_628 m_84 m_629 rfl rfl hd_X7_differ_v ⟨Nat.le_of_ble_eq_true rfl, Nat.le_of_ble_eq_true rfl⟩) (vR hP hK (rX_20 hK hP)) rfl rfl hl.1 rfl (lv_room (Nat.le_of_ble_eq_true rfl)) dX2_agreeWithout_73 ⟨Nat.le_of_ble_eq_true rfl, Nat.le_of_ble_eq_true rfl⟩) (fun r11 hr11 => ?_)
          obtain ⟨hr11, xr11_0⟩ := hr11
          have xr11_0 : (((r11 : Int32).toInt = 1 ∧ difL (n7 0) (n6 0) (n7 1) (n6 1) ((iv 2 5) : Int32)) ∨ ((r11 : Int32).toInt = 0 ∧ ¬ difL (n7 0) (n6 0) (n7 1) (n6 1) ((iv 2 5) : Int32))) := xr11_0
          refine lv_if_ne (tgt := 83) hx hb dX2_agreeWithout_76 (by decide) (fun c12 => ?_) (fun c12 => ?_)
          · have fc12 := z_ne (rfl : (r11).toInt = _) (by decide : (0 : Int32).toInt = 0) c12
            refine lv_iconst (v := 0) hx hb dX2_agreeWithout_83 (by decide) ?_
            have : (0 : Int32).toInt = 0 := (by decide)
            have hP9 : va_P (dC, dI) classes (WX h g ca iv lv (u2 fa 20 2 n5) (u2 (u2 la 20 0 n6) 20 1 n7)) H := hP
            have hD9 : va_D A (WX h g ca iv lv (u2 fa 20 2 n5) (u2 (u2 la 20 0 n6) 20 1 n7)) := hD
            exact W.zret (v := 0) hx hb hr rfl (fun t ht9 hW => ⟨⟨0, (iv, lv, (u2 fa 20 2 n5), (u2 (u2 la 20 0 n6) 20 1 n7)), rfl, ⟨n5, n6, n7, (show ∀ pt : Int32, pt.toInt = (iv 2 5).toInt → (((0 : Int32).toInt = 1 ∧ AgR (cxP (fa 10 0) (iv 2 3).toInt (iv 2 4).toInt 0) (cxP (fa 10 0) (iv 2 3).toInt (iv 2 4).toInt 1) (owX (fa 10 0) (a).toInt) (fun s : Nat => (fa 10 0) (9 * s + 3)) (fun s : Nat => (fa 10 0) (9 * s + 4)) ((iv 10 1).toInt).toNat (caF (a).toInt) pt) ∨ ((0 : Int32).toInt = 0 ∧ ¬ AgR (cxP (fa 10 0) (iv 2 3).toInt (iv 2 4).toInt 0) (cxP (fa 10 0) (iv 2 3).toInt (iv 2 4).toInt 1) (owX (fa 10 0) (a).toInt) (fun s : Nat => (fa 10 0) (9 * s + 3)) (fun s : Nat => (fa 10 0) (9 * s + 4)) ((iv 10 1).toInt).toNat (caF (a).toInt) pt)) from (fun pt hpt => by
                  have hp9 : pt = iv 2 5 := Int32.toInt_inj.mp hpt
                  subst hp9
                  have hm9 : ((iv 10 1).toInt).toNat ≤ 60 := by have q9 : 0 ≤ (iv 10 1).toInt ∧ (iv 10 1).toInt ≤ 60 := hI.1 10 1; omega
                  have hg0 := xr4_0 0 (by decide)
                  have hg1 := xr4_0 1 (by decide)
                  have ho9 := xr4_1
                  rw [show ((0 : Nat) : Int) = 0 from rfl] at hg0
                  rw [show ((1 : Nat) : Int) = 1 from rfl] at hg1
                  have hf9 : caF a.toInt = 1 := if_neg (by omega)
                  have hA9 := Ag_cl (few := 1) (p := iv 2 5) hm9 (cxP_d (rw_ := fa 10 0) (b := (iv 2 3).toInt) (d := (iv 2 4).toInt)) hg0 hg1 ho9
                  have hB9 := AgR_cg (few := 1) (p := iv 2 5) (P0 := (cxP (fa 10 0) (iv 2 3).toInt (iv 2 4).toInt 0)) (P1 := (cxP (fa 10 0) (iv 2 3).toInt (iv 2 4).toInt 1)) (ra := (fun s : Nat => (fa 10 0) (9 * s + 3))) (dr := (fun s : Nat => (fa 10 0) (9 * s + 4))) (n := ((iv 10 1).toInt).toNat) (fun s _ => Iff.rfl) (fun s _ => Iff.rfl) (fun s _ => (owX_9 (rw_ := fa 10 0) (c := a.toInt) (v := (v3 : Int32).toInt) (by omega) (by omega)) s) (fun s _ => rfl) (fun s _ => rfl)
                  rw [hf9]
                  have hb9 := xr9_0
                  have hd9 := xr11_0
                  exact Or.inr ⟨by omega, fun z => (hA9.mpr (hB9.mpr z)).2.2.2 (hd9.resolve_right (fun q => by omega)).2⟩)), ⟨by decide, by decide⟩, rfl⟩, by rw [ht9]; exact hP9, hD9⟩, hS.F ht9⟩) hS.2.2 dX2_agreeWithout_84
          · have fc12 := z_eq (rfl : (r11).toInt = _) (by decide : (0 : Int32).toInt = 0) c12
            refine lv_iconst (v := 1) hx hb dX2_agreeWithout_79 (by decide) ?_
            refine lv_goto (tgt := 84) hx hb dX2_agreeWithout_80 (by decide) ?_
            have : (1 : Int32).toInt = 1 := (by decide)
            have hP9 : va_P (dC, dI) classes (WX h g ca iv lv (u2 fa 20 2 n5) (u2 (u2 la 20 0 n6) 20 1 n7)) H := hP
            have hD9 : va_D A (WX h g ca iv lv (u2 fa 20 2 n5) (u2 (u2 la 20 0 n6) 20 1 n7)) := hD
            exact W.zret (v := 1) hx hb hr rfl (fun t ht9 hW => ⟨⟨1, (iv, lv, (u2 fa 20 2 n5), (u2 (u2 la 20 0 n6) 20 1 n7)), rfl, ⟨n5, n6, n7, (show ∀ pt : Int32, pt.toInt = (iv 2 5).toInt → (((1 : Int32).toInt = 1 ∧ AgR (cxP (fa 10 0) (iv 2 3).toInt (iv 2 4).toInt 0) (cxP (fa 10 0) (iv 2 3).toInt (iv 2 4).toInt 1) (owX (fa 10 0) (a).toInt) (fun s : Nat => (fa 10 0) (9 * s + 3)) (fun s : Nat => (fa 10 0) (9 * s + 4)) ((iv 10 1).toInt).toNat (caF (a).toInt) pt) ∨ ((1 : Int32).toInt = 0 ∧ ¬ AgR (cxP (fa 10 0) (iv 2 3).toInt (iv 2 4).toInt 0) (cxP (fa 10 0) (iv 2 3).toInt (iv 2 4).toInt 1) (owX (fa 10 0) (a).toInt) (fun s : Nat => (fa 10 0) (9 * s + 3)) (fun s : Nat => (fa 10 0) (9 * s + 4)) ((iv 10 1).toInt).toNat (caF (a).toInt) pt)) from (fun pt hpt => by
                  have hp9 : pt = iv 2 5 := Int32.toInt_inj.mp hpt
                  subst hp9
                  have hm9 : ((iv 10 1).toInt).toNat ≤ 60 := by have q9 : 0 ≤ (iv 10 1).toInt ∧ (iv 10 1).toInt ≤ 60 := hI.1 10 1; omega
                  have hg0 := xr4_0 0 (by decide)
                  have hg1 := xr4_0 1 (by decide)
                  have ho9 := xr4_1
                  rw [show ((0 : Nat) : Int) = 0 from rfl] at hg0
                  rw [show ((1 : Nat) : Int) = 1 from rfl] at hg1
                  have hf9 : caF a.toInt = 1 := if_neg (by omega)
                  have hA9 := Ag_cl (few := 1) (p := iv 2 5) hm9 (cxP_d (rw_ := fa 10 0) (b := (iv 2 3).toInt) (d := (iv 2 4).toInt)) hg0 hg1 ho9
                  have hB9 := AgR_cg (few := 1) (p := iv 2 5) (P0 := (cxP (fa 10 0) (iv 2 3).toInt (iv 2 4).toInt 0)) (P1 := (cxP (fa 10 0) (iv 2 3).toInt (iv 2 4).toInt 1)) (ra := (fun s : Nat => (fa 10 0) (9 * s + 3))) (dr := (fun s : Nat => (fa 10 0) (9 * s + 4))) (n := ((iv 10 1).toInt).toNat) (fun s _ => Iff.rfl) (fun s _ => Iff.rfl) (fun s _ => (owX_9 (rw_ := fa 10 0) (c := a.toInt) (v := (v3 : Int32).toInt) (by omega) (by omega)) s) (fun s _ => rfl) (fun s _ => rfl)
                  rw [hf9]
                  have hb9 := xr9_0
                  have hd9 := xr11_0
                  exact Or.inl ⟨by omega, hB9.mp (hA9.mp ⟨by omega, by omega, by omega, (hd9.resolve_left (fun q => by omega)).2⟩)⟩)), ⟨by decide, by decide⟩, rfl⟩, by rw [ht9]; exact hP9, hD9⟩, hS.F ht9⟩) hS.2.2 dX2_agreeWithout_84
    · have fc2 := z_nle (by decide : (100 : Int32).toInt = 100) (rfl : (a).toInt = _) c2
      refine lv_aload_n hx hb dX2_agreeWithout_24 rfl (lv_at hl 1 rfl) ?_
      refine lv_bipush (v := 6) hx hb dX2_agreeWithout_25 (by decide) ?_
      refine lv_iload_n hx hb dX2_agreeWithout_27 rfl (lv_at hl 2 rfl) ?_
      refine lv_bipush (v := 10) hx hb dX2_agreeWithout_28 (by decide) ?_
      refine lv_isub hx hb dX2_agreeWithout_30 ?_
      refine lv_topi (fun v13 ev13 => ?_)
      have tv13 := z_sub ev13 (rfl : (a).toInt = _) (by decide : (10 : Int32).toInt = 10) (by omega) (by omega)
      have i_10_1 : 0 ≤ (iv 10 1).toInt ∧ (iv 10 1).toInt ≤ 60 := hI.1 10 1
      have hFc := free_all hD hS hA
      refine va_calli (va_runV (As := [.int 6, .int v13]) (rest := []) ⟨hx, hb, hml, hown, ht⟩ (c_X2_gatherWithout_w6 l dC dI s.heap.size h g ca iv lv fa la hI v13) (kV 2 ht m_878 m_880 m_31 m_85 m_881 rfl rfl hd_X2_gatherWithout_v ⟨Nat.le_of_ble_eq_true rfl, Nat.le_of_ble_eq_true rfl⟩) (vW hP hK hD (rX_2 hK hP)) rfl rfl hl.1 rfl (lv_room (Nat.le_of_ble_eq_true rfl)) dX2_agreeWithout_31 ⟨Nat.le_of_ble_eq_true rfl, Nat.le_of_ble_eq_true rfl⟩) hS (fun q _ h => hFc q h) hFc (fun r14 u t H1 locs ht9 hvm hr14 hB hz1 hk1 hS => ?_)
      obtain ⟨n15, n16, n17, xr14_0, xr14_1, hr14, rfl⟩ := hr14
      have hn15 : ∀ j, inb (bA 20 2 j) (n15 j) := fun j => full_i _
      obtain ⟨hP, hD⟩ := hB
      rw [ht9] at hP
      generalize H1 = H at hP hS ⊢
      have hP : va_P (dC, dI) classes (WX h g ca iv lv (u2 fa 20 2 n15) (u2 (u2 la 20 0 n16) 20 1 n17)) H := hP
      have hD : va_D A (WX h g ca iv lv (u2 fa 20 2 n15) (u2 (u2 la 20 0 n16) 20 1 n17)) := (show va_D _ (WX h g ca iv lv (u2 fa 20 2 n15) (u2 (u2 la 20 0 n16) 20 1 n17)) from hD).weaken (fun _ _ _ h => hFc _ h)
      have xr14_0 : ∀ l : Nat, l < 2 → n16 l = caL (cxP (fa 10 0) ((iv 2 3) : Int32).toInt ((iv 2 4) : Int32).toInt (l : Int)) (fun s : Nat => ((fa 10 0) (9 * s + 6)).toInt = (v13 : Int32).toInt) (fun s : Nat => (fa 10 0) (9 * s + 3)) (((iv 10 1) : Int32).toInt).toNat ∧ n17 l = caL (cxP (fa 10 0) ((iv 2 3) : Int32).toInt ((iv 2 4) : Int32).toInt (l : Int)) (fun s : Nat => ((fa 10 0) (9 * s + 6)).toInt = (v13 : Int32).toInt) (fun s : Nat => (fa 10 0) (9 * s + 4)) (((iv 10 1) : Int32).toInt).toNat ∧ n15 l = caC (cxP (fa 10 0) ((iv 2 3) : Int32).toInt ((iv 2 4) : Int32).toInt (l : Int)) (fun s : Nat => ((fa 10 0) (9 * s + 6)).toInt = (v13 : Int32).toInt) (((iv 10 1) : Int32).toInt).toNat := xr14_0
      have xr14_1 : (r14 : Int32).toInt = (smC (fun s : Nat => ((cxP (fa 10 0) ((iv 2 3) : Int32).toInt ((iv 2 4) : Int32).toInt 0) s ∨ (cxP (fa 10 0) ((iv 2 3) : Int32).toInt ((iv 2 4) : Int32).toInt 1) s) ∧ (fun s : Nat => ((fa 10 0) (9 * s + 6)).toInt = (v13 : Int32).toInt) s) (((iv 10 1) : Int32).toInt).toNat).toInt := xr14_1
      refine lv_istore_n (lv' := [(2, .int r14), (3, .int 2), (0, .ref (g 11 6)), (1, .int a)]) hx hb dX2_agreeWithout_34 rfl hl (by decide) rfl (fun ls hl => ?_)
      refine lv_goto (tgt := 51) hx hb dX2_agreeWithout_35 (by decide) ?_
      refine lv_iload_n hx hb dX2_agreeWithout_51 rfl (lv_at hl 0 rfl) ?_
      refine lv_iload_n hx hb dX2_agreeWithout_52 rfl (lv_at hl 1 rfl) ?_
      refine lv_icmp_lt (tgt := 83) hx hb dX2_agreeWithout_53 (by decide) (fun c18 => ?_) (fun c18 => ?_)
      · have fc18 := z_lt (rfl : (r14).toInt = _) (by decide : (2 : Int32).toInt = 2) c18
        refine lv_iconst (v := 0) hx hb dX2_agreeWithout_83 (by decide) ?_
        have : (0 : Int32).toInt = 0 := (by decide)
        have hP9 : va_P (dC, dI) classes (WX h g ca iv lv (u2 fa 20 2 n15) (u2 (u2 la 20 0 n16) 20 1 n17)) H := hP
        have hD9 : va_D A (WX h g ca iv lv (u2 fa 20 2 n15) (u2 (u2 la 20 0 n16) 20 1 n17)) := hD
        exact W.zret (v := 0) hx hb hr rfl (fun t ht9 hW => ⟨⟨0, (iv, lv, (u2 fa 20 2 n15), (u2 (u2 la 20 0 n16) 20 1 n17)), rfl, ⟨n15, n16, n17, (show ∀ pt : Int32, pt.toInt = (iv 2 5).toInt → (((0 : Int32).toInt = 1 ∧ AgR (cxP (fa 10 0) (iv 2 3).toInt (iv 2 4).toInt 0) (cxP (fa 10 0) (iv 2 3).toInt (iv 2 4).toInt 1) (owX (fa 10 0) (a).toInt) (fun s : Nat => (fa 10 0) (9 * s + 3)) (fun s : Nat => (fa 10 0) (9 * s + 4)) ((iv 10 1).toInt).toNat (caF (a).toInt) pt) ∨ ((0 : Int32).toInt = 0 ∧ ¬ AgR (cxP (fa 10 0) (iv 2 3).toInt (iv 2 4).toInt 0) (cxP (fa 10 0) (iv 2 3).toInt (iv 2 4).toInt 1) (owX (fa 10 0) (a).toInt) (fun s : Nat => (fa 10 0) (9 * s + 3)) (fun s : Nat => (fa 10 0) (9 * s + 4)) ((iv 10 1).toInt).toNat (caF (a).toInt) pt)) from (fun pt hpt => by
              have hp9 : pt = iv 2 5 := Int32.toInt_inj.mp hpt
              subst hp9
              have hm9 : ((iv 10 1).toInt).toNat ≤ 60 := by have q9 : 0 ≤ (iv 10 1).toInt ∧ (iv 10 1).toInt ≤ 60 := hI.1 10 1; omega
              have hg0 := xr14_0 0 (by decide)
              have hg1 := xr14_0 1 (by decide)
              have ho9 := xr14_1
              rw [show ((0 : Nat) : Int) = 0 from rfl] at hg0
              rw [show ((1 : Nat) : Int) = 1 from rfl] at hg1
              have hf9 : caF a.toInt = 2 := if_pos (by omega)
              have hA9 := Ag_cl (few := 2) (p := iv 2 5) hm9 (cxP_d (rw_ := fa 10 0) (b := (iv 2 3).toInt) (d := (iv 2 4).toInt)) hg0 hg1 ho9
              have hB9 := AgR_cg (few := 2) (p := iv 2 5) (P0 := (cxP (fa 10 0) (iv 2 3).toInt (iv 2 4).toInt 0)) (P1 := (cxP (fa 10 0) (iv 2 3).toInt (iv 2 4).toInt 1)) (ra := (fun s : Nat => (fa 10 0) (9 * s + 3))) (dr := (fun s : Nat => (fa 10 0) (9 * s + 4))) (n := ((iv 10 1).toInt).toNat) (fun s _ => Iff.rfl) (fun s _ => Iff.rfl) (fun s _ => (owX_6 (rw_ := fa 10 0) (c := a.toInt) (v := (v13 : Int32).toInt) ⟨by omega, by omega⟩ (by omega)) s) (fun s _ => rfl) (fun s _ => rfl)
              rw [hf9]
              exact Or.inr ⟨by omega, fun z => by have z1 := hA9.mpr (hB9.mpr z); obtain ⟨z2, z3, z4, -⟩ := z1; omega⟩)), ⟨by decide, by decide⟩, rfl⟩, by rw [ht9]; exact hP9, hD9⟩, hS.F ht9⟩) hS.2.2 dX2_agreeWithout_84
      · have fc18 := z_nlt (rfl : (r14).toInt = _) (by decide : (2 : Int32).toInt = 2) c18
        refine lv_aload_n hx hb dX2_agreeWithout_56 rfl (lv_at hl 2 rfl) ?_
        refine vp_callSi (W.runV (As := []) (rest := []) ⟨hx, hb, hml, hown, ht⟩ (c_X2_bothLeft_w l dC dI h g ca iv lv (u2 fa 20 2 n15) (u2 (u2 la 20 0 n16) 20 1 n17) (IX_a (c := 20) (k := 2) hI hn15)) (kV 0 ht m_895 m_897 m_34 m_85 m_898 rfl rfl hd_X2_bothLeft_v ⟨Nat.le_of_ble_eq_true rfl, Nat.le_of_ble_eq_true rfl⟩) (vR hP hK (rX_2 hK hP)) rfl rfl hl.1 rfl (lv_room (Nat.le_of_ble_eq_true rfl)) dX2_agreeWithout_57 ⟨Nat.le_of_ble_eq_true rfl, Nat.le_of_ble_eq_true rfl⟩) (fun r19 hr19 => ?_)
        obtain ⟨hr19, xr19_0⟩ := hr19
        have xr19_0 : (((r19 : Int32).toInt = 1 ∧ (0 < (n15 0).toInt ∧ 0 < (n15 1).toInt)) ∨ ((r19 : Int32).toInt = 0 ∧ ¬ (0 < (n15 0).toInt ∧ 0 < (n15 1).toInt))) := xr19_0
        refine lv_if_eq (tgt := 83) hx hb dX2_agreeWithout_60 (by decide) (fun c20 => ?_) (fun c20 => ?_)
        · have fc20 := z_eq (rfl : (r19).toInt = _) (by decide : (0 : Int32).toInt = 0) c20
          refine lv_iconst (v := 0) hx hb dX2_agreeWithout_83 (by decide) ?_
          have : (0 : Int32).toInt = 0 := (by decide)
          have hP9 : va_P (dC, dI) classes (WX h g ca iv lv (u2 fa 20 2 n15) (u2 (u2 la 20 0 n16) 20 1 n17)) H := hP
          have hD9 : va_D A (WX h g ca iv lv (u2 fa 20 2 n15) (u2 (u2 la 20 0 n16) 20 1 n17)) := hD
          exact W.zret (v := 0) hx hb hr rfl (fun t ht9 hW => ⟨⟨0, (iv, lv, (u2 fa 20 2 n15), (u2 (u2 la 20 0 n16) 20 1 n17)), rfl, ⟨n15, n16, n17, (show ∀ pt : Int32, pt.toInt = (iv 2 5).toInt → (((0 : Int32).toInt = 1 ∧ AgR (cxP (fa 10 0) (iv 2 3).toInt (iv 2 4).toInt 0) (cxP (fa 10 0) (iv 2 3).toInt (iv 2 4).toInt 1) (owX (fa 10 0) (a).toInt) (fun s : Nat => (fa 10 0) (9 * s + 3)) (fun s : Nat => (fa 10 0) (9 * s + 4)) ((iv 10 1).toInt).toNat (caF (a).toInt) pt) ∨ ((0 : Int32).toInt = 0 ∧ ¬ AgR (cxP (fa 10 0) (iv 2 3).toInt (iv 2 4).toInt 0) (cxP (fa 10 0) (iv 2 3).toInt (iv 2 4).toInt 1) (owX (fa 10 0) (a).toInt) (fun s : Nat => (fa 10 0) (9 * s + 3)) (fun s : Nat => (fa 10 0) (9 * s + 4)) ((iv 10 1).toInt).toNat (caF (a).toInt) pt)) from (fun pt hpt => by
                have hp9 : pt = iv 2 5 := Int32.toInt_inj.mp hpt
                subst hp9
                have hm9 : ((iv 10 1).toInt).toNat ≤ 60 := by have q9 : 0 ≤ (iv 10 1).toInt ∧ (iv 10 1).toInt ≤ 60 := hI.1 10 1; omega
                have hg0 := xr14_0 0 (by decide)
                have hg1 := xr14_0 1 (by decide)
                have ho9 := xr14_1
                rw [show ((0 : Nat) : Int) = 0 from rfl] at hg0
                rw [show ((1 : Nat) : Int) = 1 from rfl] at hg1
                have hf9 : caF a.toInt = 2 := if_pos (by omega)
                have hA9 := Ag_cl (few := 2) (p := iv 2 5) hm9 (cxP_d (rw_ := fa 10 0) (b := (iv 2 3).toInt) (d := (iv 2 4).toInt)) hg0 hg1 ho9
                have hB9 := AgR_cg (few := 2) (p := iv 2 5) (P0 := (cxP (fa 10 0) (iv 2 3).toInt (iv 2 4).toInt 0)) (P1 := (cxP (fa 10 0) (iv 2 3).toInt (iv 2 4).toInt 1)) (ra := (fun s : Nat => (fa 10 0) (9 * s + 3))) (dr := (fun s : Nat => (fa 10 0) (9 * s + 4))) (n := ((iv 10 1).toInt).toNat) (fun s _ => Iff.rfl) (fun s _ => Iff.rfl) (fun s _ => (owX_6 (rw_ := fa 10 0) (c := a.toInt) (v := (v13 : Int32).toInt) ⟨by omega, by omega⟩ (by omega)) s) (fun s _ => rfl) (fun s _ => rfl)
                rw [hf9]
                have hb9 := xr19_0
                exact Or.inr ⟨by omega, fun z => by have z1 := hA9.mpr (hB9.mpr z); obtain ⟨z2, z3, z4, -⟩ := z1; omega⟩)), ⟨by decide, by decide⟩, rfl⟩, by rw [ht9]; exact hP9, hD9⟩, hS.F ht9⟩) hS.2.2 dX2_agreeWithout_84
        · have fc20 := z_ne (rfl : (r19).toInt = _) (by decide : (0 : Int32).toInt = 0) c20
          refine lv_aload_n hx hb dX2_agreeWithout_63 rfl (lv_at hl 2 rfl) ?_
          refine gX_2_1 hx hb ht hown hK hP m_305 dX2_agreeWithout_64 ?_
          refine lv_iconst (v := 0) hx hb dX2_agreeWithout_67 (by decide) ?_
          refine lv_iconst (v := 1) hx hb dX2_agreeWithout_68 (by decide) ?_
          refine lv_aload_n hx hb dX2_agreeWithout_69 rfl (lv_at hl 2 rfl) ?_
          refine gX_2_5 hx hb ht hown hK hP m_309 (v := (iv 2 5)) rfl dX2_agreeWithout_70 ?_
          refine vp_callSi (W.runV (As := [.int 0, .int 1, .int (iv 2 5)]) (rest := []) ⟨hx, hb, hml, hown, ht⟩ (c_X7_differ_f20 l dC dI h g ca iv lv (u2 fa 20 2 n15) (u2 (u2 la 20 0 n16) 20 1 n17) (IX_a (c := 20) (k := 2) hI hn15) (iv 2 5)) (kV 3 ht m_899 m_627 m_628 m_84 m_629 rfl rfl hd_X7_differ_v ⟨Nat.le_of_ble_eq_true rfl, Nat.le_of_ble_eq_true rfl⟩) (vR hP hK (rX_20 hK hP)) rfl rfl hl.1 rfl (lv_room (Nat.le_of_ble_eq_true rfl)) dX2_agreeWithout_73 ⟨Nat.le_of_ble_eq_true rfl, Nat.le_of_ble_eq_true rfl⟩) (fun r21 hr21 => ?_)
          obtain ⟨hr21, xr21_0⟩ := hr21
          have xr21_0 : (((r21 : Int32).toInt = 1 ∧ difL (n17 0) (n16 0) (n17 1) (n16 1) ((iv 2 5) : Int32)) ∨ ((r21 : Int32).toInt = 0 ∧ ¬ difL (n17 0) (n16 0) (n17 1) (n16 1) ((iv 2 5) : Int32))) := xr21_0
          refine lv_if_ne (tgt := 83) hx hb dX2_agreeWithout_76 (by decide) (fun c22 => ?_) (fun c22 => ?_)
          · have fc22 := z_ne (rfl : (r21).toInt = _) (by decide : (0 : Int32).toInt = 0) c22
            refine lv_iconst (v := 0) hx hb dX2_agreeWithout_83 (by decide) ?_
            have : (0 : Int32).toInt = 0 := (by decide)
            have hP9 : va_P (dC, dI) classes (WX h g ca iv lv (u2 fa 20 2 n15) (u2 (u2 la 20 0 n16) 20 1 n17)) H := hP
            have hD9 : va_D A (WX h g ca iv lv (u2 fa 20 2 n15) (u2 (u2 la 20 0 n16) 20 1 n17)) := hD
            exact W.zret (v := 0) hx hb hr rfl (fun t ht9 hW => ⟨⟨0, (iv, lv, (u2 fa 20 2 n15), (u2 (u2 la 20 0 n16) 20 1 n17)), rfl, ⟨n15, n16, n17, (show ∀ pt : Int32, pt.toInt = (iv 2 5).toInt → (((0 : Int32).toInt = 1 ∧ AgR (cxP (fa 10 0) (iv 2 3).toInt (iv 2 4).toInt 0) (cxP (fa 10 0) (iv 2 3).toInt (iv 2 4).toInt 1) (owX (fa 10 0) (a).toInt) (fun s : Nat => (fa 10 0) (9 * s + 3)) (fun s : Nat => (fa 10 0) (9 * s + 4)) ((iv 10 1).toInt).toNat (caF (a).toInt) pt) ∨ ((0 : Int32).toInt = 0 ∧ ¬ AgR (cxP (fa 10 0) (iv 2 3).toInt (iv 2 4).toInt 0) (cxP (fa 10 0) (iv 2 3).toInt (iv 2 4).toInt 1) (owX (fa 10 0) (a).toInt) (fun s : Nat => (fa 10 0) (9 * s + 3)) (fun s : Nat => (fa 10 0) (9 * s + 4)) ((iv 10 1).toInt).toNat (caF (a).toInt) pt)) from (fun pt hpt => by
                  have hp9 : pt = iv 2 5 := Int32.toInt_inj.mp hpt
                  subst hp9
                  have hm9 : ((iv 10 1).toInt).toNat ≤ 60 := by have q9 : 0 ≤ (iv 10 1).toInt ∧ (iv 10 1).toInt ≤ 60 := hI.1 10 1; omega
                  have hg0 := xr14_0 0 (by decide)
                  have hg1 := xr14_0 1 (by decide)
                  have ho9 := xr14_1
                  rw [show ((0 : Nat) : Int) = 0 from rfl] at hg0
                  rw [show ((1 : Nat) : Int) = 1 from rfl] at hg1
                  have hf9 : caF a.toInt = 2 := if_pos (by omega)
                  have hA9 := Ag_cl (few := 2) (p := iv 2 5) hm9 (cxP_d (rw_ := fa 10 0) (b := (iv 2 3).toInt) (d := (iv 2 4).toInt)) hg0 hg1 ho9
                  have hB9 := AgR_cg (few := 2) (p := iv 2 5) (P0 := (cxP (fa 10 0) (iv 2 3).toInt (iv 2 4).toInt 0)) (P1 := (cxP (fa 10 0) (iv 2 3).toInt (iv 2 4).toInt 1)) (ra := (fun s : Nat => (fa 10 0) (9 * s + 3))) (dr := (fun s : Nat => (fa 10 0) (9 * s + 4))) (n := ((iv 10 1).toInt).toNat) (fun s _ => Iff.rfl) (fun s _ => Iff.rfl) (fun s _ => (owX_6 (rw_ := fa 10 0) (c := a.toInt) (v := (v13 : Int32).toInt) ⟨by omega, by omega⟩ (by omega)) s) (fun s _ => rfl) (fun s _ => rfl)
                  rw [hf9]
                  have hb9 := xr19_0
                  have hd9 := xr21_0
                  exact Or.inr ⟨by omega, fun z => (hA9.mpr (hB9.mpr z)).2.2.2 (hd9.resolve_right (fun q => by omega)).2⟩)), ⟨by decide, by decide⟩, rfl⟩, by rw [ht9]; exact hP9, hD9⟩, hS.F ht9⟩) hS.2.2 dX2_agreeWithout_84
          · have fc22 := z_eq (rfl : (r21).toInt = _) (by decide : (0 : Int32).toInt = 0) c22
            refine lv_iconst (v := 1) hx hb dX2_agreeWithout_79 (by decide) ?_
            refine lv_goto (tgt := 84) hx hb dX2_agreeWithout_80 (by decide) ?_
            have : (1 : Int32).toInt = 1 := (by decide)
            have hP9 : va_P (dC, dI) classes (WX h g ca iv lv (u2 fa 20 2 n15) (u2 (u2 la 20 0 n16) 20 1 n17)) H := hP
            have hD9 : va_D A (WX h g ca iv lv (u2 fa 20 2 n15) (u2 (u2 la 20 0 n16) 20 1 n17)) := hD
            exact W.zret (v := 1) hx hb hr rfl (fun t ht9 hW => ⟨⟨1, (iv, lv, (u2 fa 20 2 n15), (u2 (u2 la 20 0 n16) 20 1 n17)), rfl, ⟨n15, n16, n17, (show ∀ pt : Int32, pt.toInt = (iv 2 5).toInt → (((1 : Int32).toInt = 1 ∧ AgR (cxP (fa 10 0) (iv 2 3).toInt (iv 2 4).toInt 0) (cxP (fa 10 0) (iv 2 3).toInt (iv 2 4).toInt 1) (owX (fa 10 0) (a).toInt) (fun s : Nat => (fa 10 0) (9 * s + 3)) (fun s : Nat => (fa 10 0) (9 * s + 4)) ((iv 10 1).toInt).toNat (caF (a).toInt) pt) ∨ ((1 : Int32).toInt = 0 ∧ ¬ AgR (cxP (fa 10 0) (iv 2 3).toInt (iv 2 4).toInt 0) (cxP (fa 10 0) (iv 2 3).toInt (iv 2 4).toInt 1) (owX (fa 10 0) (a).toInt) (fun s : Nat => (fa 10 0) (9 * s + 3)) (fun s : Nat => (fa 10 0) (9 * s + 4)) ((iv 10 1).toInt).toNat (caF (a).toInt) pt)) from (fun pt hpt => by
                  have hp9 : pt = iv 2 5 := Int32.toInt_inj.mp hpt
                  subst hp9
                  have hm9 : ((iv 10 1).toInt).toNat ≤ 60 := by have q9 : 0 ≤ (iv 10 1).toInt ∧ (iv 10 1).toInt ≤ 60 := hI.1 10 1; omega
                  have hg0 := xr14_0 0 (by decide)
                  have hg1 := xr14_0 1 (by decide)
                  have ho9 := xr14_1
                  rw [show ((0 : Nat) : Int) = 0 from rfl] at hg0
                  rw [show ((1 : Nat) : Int) = 1 from rfl] at hg1
                  have hf9 : caF a.toInt = 2 := if_pos (by omega)
                  have hA9 := Ag_cl (few := 2) (p := iv 2 5) hm9 (cxP_d (rw_ := fa 10 0) (b := (iv 2 3).toInt) (d := (iv 2 4).toInt)) hg0 hg1 ho9
                  have hB9 := AgR_cg (few := 2) (p := iv 2 5) (P0 := (cxP (fa 10 0) (iv 2 3).toInt (iv 2 4).toInt 0)) (P1 := (cxP (fa 10 0) (iv 2 3).toInt (iv 2 4).toInt 1)) (ra := (fun s : Nat => (fa 10 0) (9 * s + 3))) (dr := (fun s : Nat => (fa 10 0) (9 * s + 4))) (n := ((iv 10 1).toInt).toNat) (fun s _ => Iff.rfl) (fun s _ => Iff.rfl) (fun s _ => (owX_6 (rw_ := fa 10 0) (c := a.toInt) (v := (v13 : Int32).toInt) ⟨by omega, by omega⟩ (by omega)) s) (fun s _ => rfl) (fun s _ => rfl)
                  rw [hf9]
                  have hb9 := xr19_0
                  have hd9 := xr21_0
                  exact Or.inl ⟨by omega, hB9.mp (hA9.mp ⟨by omega, by omega, by omega, (hd9.resolve_left (fun q => by omega)).2⟩)⟩)), ⟨by decide, by decide⟩, rfl⟩, by rw [ht9]; exact hP9, hD9⟩, hS.F ht9⟩) hS.2.2 dX2_agreeWithout_84
  · have fc1 := z_nle (by decide : (10 : Int32).toInt = 10) (rfl : (a).toInt = _) c1
    refine lv_aload_n hx hb dX2_agreeWithout_8 rfl (lv_at hl 1 rfl) ?_
    refine lv_iconst (v := 5) hx hb dX2_agreeWithout_9 (by decide) ?_
    refine lv_iload_n hx hb dX2_agreeWithout_10 rfl (lv_at hl 2 rfl) ?_
    have i_10_1 : 0 ≤ (iv 10 1).toInt ∧ (iv 10 1).toInt ≤ 60 := hI.1 10 1
    have hFc := free_all hD hS hA
    refine va_calli (va_runV (As := [.int 5, .int a]) (rest := []) ⟨hx, hb, hml, hown, ht⟩ (c_X2_gatherWithout_w5 l dC dI s.heap.size h g ca iv lv fa la hI a) (kV 2 ht m_878 m_880 m_31 m_85 m_881 rfl rfl hd_X2_gatherWithout_v ⟨Nat.le_of_ble_eq_true rfl, Nat.le_of_ble_eq_true rfl⟩) (vW hP hK hD (rX_2 hK hP)) rfl rfl hl.1 rfl (lv_room (Nat.le_of_ble_eq_true rfl)) dX2_agreeWithout_11 ⟨Nat.le_of_ble_eq_true rfl, Nat.le_of_ble_eq_true rfl⟩) hS (fun q _ h => hFc q h) hFc (fun r23 u t H1 locs ht9 hvm hr23 hB hz1 hk1 hS => ?_)
    obtain ⟨n24, n25, n26, xr23_0, xr23_1, hr23, rfl⟩ := hr23
    have hn24 : ∀ j, inb (bA 20 2 j) (n24 j) := fun j => full_i _
    obtain ⟨hP, hD⟩ := hB
    rw [ht9] at hP
    generalize H1 = H at hP hS ⊢
    have hP : va_P (dC, dI) classes (WX h g ca iv lv (u2 fa 20 2 n24) (u2 (u2 la 20 0 n25) 20 1 n26)) H := hP
    have hD : va_D A (WX h g ca iv lv (u2 fa 20 2 n24) (u2 (u2 la 20 0 n25) 20 1 n26)) := (show va_D _ (WX h g ca iv lv (u2 fa 20 2 n24) (u2 (u2 la 20 0 n25) 20 1 n26)) from hD).weaken (fun _ _ _ h => hFc _ h)
    have xr23_0 : ∀ l : Nat, l < 2 → n25 l = caL (cxP (fa 10 0) ((iv 2 3) : Int32).toInt ((iv 2 4) : Int32).toInt (l : Int)) (fun s : Nat => ((fa 10 0) (9 * s + 5)).toInt = (a : Int32).toInt) (fun s : Nat => (fa 10 0) (9 * s + 3)) (((iv 10 1) : Int32).toInt).toNat ∧ n26 l = caL (cxP (fa 10 0) ((iv 2 3) : Int32).toInt ((iv 2 4) : Int32).toInt (l : Int)) (fun s : Nat => ((fa 10 0) (9 * s + 5)).toInt = (a : Int32).toInt) (fun s : Nat => (fa 10 0) (9 * s + 4)) (((iv 10 1) : Int32).toInt).toNat ∧ n24 l = caC (cxP (fa 10 0) ((iv 2 3) : Int32).toInt ((iv 2 4) : Int32).toInt (l : Int)) (fun s : Nat => ((fa 10 0) (9 * s + 5)).toInt = (a : Int32).toInt) (((iv 10 1) : Int32).toInt).toNat := xr23_0
    have xr23_1 : (r23 : Int32).toInt = (smC (fun s : Nat => ((cxP (fa 10 0) ((iv 2 3) : Int32).toInt ((iv 2 4) : Int32).toInt 0) s ∨ (cxP (fa 10 0) ((iv 2 3) : Int32).toInt ((iv 2 4) : Int32).toInt 1) s) ∧ (fun s : Nat => ((fa 10 0) (9 * s + 5)).toInt = (a : Int32).toInt) s) (((iv 10 1) : Int32).toInt).toNat).toInt := xr23_1
    refine lv_istore_n (lv' := [(2, .int r23), (3, .int 2), (0, .ref (g 11 6)), (1, .int a)]) hx hb dX2_agreeWithout_14 rfl hl (by decide) rfl (fun ls hl => ?_)
    refine lv_goto (tgt := 51) hx hb dX2_agreeWithout_15 (by decide) ?_
    refine lv_iload_n hx hb dX2_agreeWithout_51 rfl (lv_at hl 0 rfl) ?_
    refine lv_iload_n hx hb dX2_agreeWithout_52 rfl (lv_at hl 1 rfl) ?_
    refine lv_icmp_lt (tgt := 83) hx hb dX2_agreeWithout_53 (by decide) (fun c27 => ?_) (fun c27 => ?_)
    · have fc27 := z_lt (rfl : (r23).toInt = _) (by decide : (2 : Int32).toInt = 2) c27
      refine lv_iconst (v := 0) hx hb dX2_agreeWithout_83 (by decide) ?_
      have : (0 : Int32).toInt = 0 := (by decide)
      have hP9 : va_P (dC, dI) classes (WX h g ca iv lv (u2 fa 20 2 n24) (u2 (u2 la 20 0 n25) 20 1 n26)) H := hP
      have hD9 : va_D A (WX h g ca iv lv (u2 fa 20 2 n24) (u2 (u2 la 20 0 n25) 20 1 n26)) := hD
      exact W.zret (v := 0) hx hb hr rfl (fun t ht9 hW => ⟨⟨0, (iv, lv, (u2 fa 20 2 n24), (u2 (u2 la 20 0 n25) 20 1 n26)), rfl, ⟨n24, n25, n26, (show ∀ pt : Int32, pt.toInt = (iv 2 5).toInt → (((0 : Int32).toInt = 1 ∧ AgR (cxP (fa 10 0) (iv 2 3).toInt (iv 2 4).toInt 0) (cxP (fa 10 0) (iv 2 3).toInt (iv 2 4).toInt 1) (owX (fa 10 0) (a).toInt) (fun s : Nat => (fa 10 0) (9 * s + 3)) (fun s : Nat => (fa 10 0) (9 * s + 4)) ((iv 10 1).toInt).toNat (caF (a).toInt) pt) ∨ ((0 : Int32).toInt = 0 ∧ ¬ AgR (cxP (fa 10 0) (iv 2 3).toInt (iv 2 4).toInt 0) (cxP (fa 10 0) (iv 2 3).toInt (iv 2 4).toInt 1) (owX (fa 10 0) (a).toInt) (fun s : Nat => (fa 10 0) (9 * s + 3)) (fun s : Nat => (fa 10 0) (9 * s + 4)) ((iv 10 1).toInt).toNat (caF (a).toInt) pt)) from (fun pt hpt => by
            have hp9 : pt = iv 2 5 := Int32.toInt_inj.mp hpt
            subst hp9
            have hm9 : ((iv 10 1).toInt).toNat ≤ 60 := by have q9 : 0 ≤ (iv 10 1).toInt ∧ (iv 10 1).toInt ≤ 60 := hI.1 10 1; omega
            have hg0 := xr23_0 0 (by decide)
            have hg1 := xr23_0 1 (by decide)
            have ho9 := xr23_1
            rw [show ((0 : Nat) : Int) = 0 from rfl] at hg0
            rw [show ((1 : Nat) : Int) = 1 from rfl] at hg1
            have hf9 : caF a.toInt = 2 := if_pos (by omega)
            have hA9 := Ag_cl (few := 2) (p := iv 2 5) hm9 (cxP_d (rw_ := fa 10 0) (b := (iv 2 3).toInt) (d := (iv 2 4).toInt)) hg0 hg1 ho9
            have hB9 := AgR_cg (few := 2) (p := iv 2 5) (P0 := (cxP (fa 10 0) (iv 2 3).toInt (iv 2 4).toInt 0)) (P1 := (cxP (fa 10 0) (iv 2 3).toInt (iv 2 4).toInt 1)) (ra := (fun s : Nat => (fa 10 0) (9 * s + 3))) (dr := (fun s : Nat => (fa 10 0) (9 * s + 4))) (n := ((iv 10 1).toInt).toNat) (fun s _ => Iff.rfl) (fun s _ => Iff.rfl) (fun s _ => (owX_5 (rw_ := fa 10 0) (c := a.toInt) (by omega)) s) (fun s _ => rfl) (fun s _ => rfl)
            rw [hf9]
            exact Or.inr ⟨by omega, fun z => by have z1 := hA9.mpr (hB9.mpr z); obtain ⟨z2, z3, z4, -⟩ := z1; omega⟩)), ⟨by decide, by decide⟩, rfl⟩, by rw [ht9]; exact hP9, hD9⟩, hS.F ht9⟩) hS.2.2 dX2_agreeWithout_84
    · have fc27 := z_nlt (rfl : (r23).toInt = _) (by decide : (2 : Int32).toInt = 2) c27
      refine lv_aload_n hx hb dX2_agreeWithout_56 rfl (lv_at hl 2 rfl) ?_
      refine vp_callSi (W.runV (As := []) (rest := []) ⟨hx, hb, hml, hown, ht⟩ (c_X2_bothLeft_w l dC dI h g ca iv lv (u2 fa 20 2 n24) (u2 (u2 la 20 0 n25) 20 1 n26) (IX_a (c := 20) (k := 2) hI hn24)) (kV 0 ht m_895 m_897 m_34 m_85 m_898 rfl rfl hd_X2_bothLeft_v ⟨Nat.le_of_ble_eq_true rfl, Nat.le_of_ble_eq_true rfl⟩) (vR hP hK (rX_2 hK hP)) rfl rfl hl.1 rfl (lv_room (Nat.le_of_ble_eq_true rfl)) dX2_agreeWithout_57 ⟨Nat.le_of_ble_eq_true rfl, Nat.le_of_ble_eq_true rfl⟩) (fun r28 hr28 => ?_)
      obtain ⟨hr28, xr28_0⟩ := hr28
      have xr28_0 : (((r28 : Int32).toInt = 1 ∧ (0 < (n24 0).toInt ∧ 0 < (n24 1).toInt)) ∨ ((r28 : Int32).toInt = 0 ∧ ¬ (0 < (n24 0).toInt ∧ 0 < (n24 1).toInt))) := xr28_0
      refine lv_if_eq (tgt := 83) hx hb dX2_agreeWithout_60 (by decide) (fun c29 => ?_) (fun c29 => ?_)
      · have fc29 := z_eq (rfl : (r28).toInt = _) (by decide : (0 : Int32).toInt = 0) c29
        refine lv_iconst (v := 0) hx hb dX2_agreeWithout_83 (by decide) ?_
        have : (0 : Int32).toInt = 0 := (by decide)
        have hP9 : va_P (dC, dI) classes (WX h g ca iv lv (u2 fa 20 2 n24) (u2 (u2 la 20 0 n25) 20 1 n26)) H := hP
        have hD9 : va_D A (WX h g ca iv lv (u2 fa 20 2 n24) (u2 (u2 la 20 0 n25) 20 1 n26)) := hD
        exact W.zret (v := 0) hx hb hr rfl (fun t ht9 hW => ⟨⟨0, (iv, lv, (u2 fa 20 2 n24), (u2 (u2 la 20 0 n25) 20 1 n26)), rfl, ⟨n24, n25, n26, (show ∀ pt : Int32, pt.toInt = (iv 2 5).toInt → (((0 : Int32).toInt = 1 ∧ AgR (cxP (fa 10 0) (iv 2 3).toInt (iv 2 4).toInt 0) (cxP (fa 10 0) (iv 2 3).toInt (iv 2 4).toInt 1) (owX (fa 10 0) (a).toInt) (fun s : Nat => (fa 10 0) (9 * s + 3)) (fun s : Nat => (fa 10 0) (9 * s + 4)) ((iv 10 1).toInt).toNat (caF (a).toInt) pt) ∨ ((0 : Int32).toInt = 0 ∧ ¬ AgR (cxP (fa 10 0) (iv 2 3).toInt (iv 2 4).toInt 0) (cxP (fa 10 0) (iv 2 3).toInt (iv 2 4).toInt 1) (owX (fa 10 0) (a).toInt) (fun s : Nat => (fa 10 0) (9 * s + 3)) (fun s : Nat => (fa 10 0) (9 * s + 4)) ((iv 10 1).toInt).toNat (caF (a).toInt) pt)) from (fun pt hpt => by
              have hp9 : pt = iv 2 5 := Int32.toInt_inj.mp hpt
              subst hp9
              have hm9 : ((iv 10 1).toInt).toNat ≤ 60 := by have q9 : 0 ≤ (iv 10 1).toInt ∧ (iv 10 1).toInt ≤ 60 := hI.1 10 1; omega
              have hg0 := xr23_0 0 (by decide)
              have hg1 := xr23_0 1 (by decide)
              have ho9 := xr23_1
              rw [show ((0 : Nat) : Int) = 0 from rfl] at hg0
              rw [show ((1 : Nat) : Int) = 1 from rfl] at hg1
              have hf9 : caF a.toInt = 2 := if_pos (by omega)
              have hA9 := Ag_cl (few := 2) (p := iv 2 5) hm9 (cxP_d (rw_ := fa 10 0) (b := (iv 2 3).toInt) (d := (iv 2 4).toInt)) hg0 hg1 ho9
              have hB9 := AgR_cg (few := 2) (p := iv 2 5) (P0 := (cxP (fa 10 0) (iv 2 3).toInt (iv 2 4).toInt 0)) (P1 := (cxP (fa 10 0) (iv 2 3).toInt (iv 2 4).toInt 1)) (ra := (fun s : Nat => (fa 10 0) (9 * s + 3))) (dr := (fun s : Nat => (fa 10 0) (9 * s + 4))) (n := ((iv 10 1).toInt).toNat) (fun s _ => Iff.rfl) (fun s _ => Iff.rfl) (fun s _ => (owX_5 (rw_ := fa 10 0) (c := a.toInt) (by omega)) s) (fun s _ => rfl) (fun s _ => rfl)
              rw [hf9]
              have hb9 := xr28_0
              exact Or.inr ⟨by omega, fun z => by have z1 := hA9.mpr (hB9.mpr z); obtain ⟨z2, z3, z4, -⟩ := z1; omega⟩)), ⟨by decide, by decide⟩, rfl⟩, by rw [ht9]; exact hP9, hD9⟩, hS.F ht9⟩) hS.2.2 dX2_agreeWithout_84
      · have fc29 := z_ne (rfl : (r28).toInt = _) (by decide : (0 : Int32).toInt = 0) c29
        refine lv_aload_n hx hb dX2_agreeWithout_63 rfl (lv_at hl 2 rfl) ?_
        refine gX_2_1 hx hb ht hown hK hP m_305 dX2_agreeWithout_64 ?_
        refine lv_iconst (v := 0) hx hb dX2_agreeWithout_67 (by decide) ?_
        refine lv_iconst (v := 1) hx hb dX2_agreeWithout_68 (by decide) ?_
        refine lv_aload_n hx hb dX2_agreeWithout_69 rfl (lv_at hl 2 rfl) ?_
        refine gX_2_5 hx hb ht hown hK hP m_309 (v := (iv 2 5)) rfl dX2_agreeWithout_70 ?_
        refine vp_callSi (W.runV (As := [.int 0, .int 1, .int (iv 2 5)]) (rest := []) ⟨hx, hb, hml, hown, ht⟩ (c_X7_differ_f20 l dC dI h g ca iv lv (u2 fa 20 2 n24) (u2 (u2 la 20 0 n25) 20 1 n26) (IX_a (c := 20) (k := 2) hI hn24) (iv 2 5)) (kV 3 ht m_899 m_627 m_628 m_84 m_629 rfl rfl hd_X7_differ_v ⟨Nat.le_of_ble_eq_true rfl, Nat.le_of_ble_eq_true rfl⟩) (vR hP hK (rX_20 hK hP)) rfl rfl hl.1 rfl (lv_room (Nat.le_of_ble_eq_true rfl)) dX2_agreeWithout_73 ⟨Nat.le_of_ble_eq_true rfl, Nat.le_of_ble_eq_true rfl⟩) (fun r30 hr30 => ?_)
        obtain ⟨hr30, xr30_0⟩ := hr30
        have xr30_0 : (((r30 : Int32).toInt = 1 ∧ difL (n26 0) (n25 0) (n26 1) (n25 1) ((iv 2 5) : Int32)) ∨ ((r30 : Int32).toInt = 0 ∧ ¬ difL (n26 0) (n25 0) (n26 1) (n25 1) ((iv 2 5) : Int32))) := xr30_0
        refine lv_if_ne (tgt := 83) hx hb dX2_agreeWithout_76 (by decide) (fun c31 => ?_) (fun c31 => ?_)
        · have fc31 := z_ne (rfl : (r30).toInt = _) (by decide : (0 : Int32).toInt = 0) c31
          refine lv_iconst (v := 0) hx hb dX2_agreeWithout_83 (by decide) ?_
          have : (0 : Int32).toInt = 0 := (by decide)
          have hP9 : va_P (dC, dI) classes (WX h g ca iv lv (u2 fa 20 2 n24) (u2 (u2 la 20 0 n25) 20 1 n26)) H := hP
          have hD9 : va_D A (WX h g ca iv lv (u2 fa 20 2 n24) (u2 (u2 la 20 0 n25) 20 1 n26)) := hD
          exact W.zret (v := 0) hx hb hr rfl (fun t ht9 hW => ⟨⟨0, (iv, lv, (u2 fa 20 2 n24), (u2 (u2 la 20 0 n25) 20 1 n26)), rfl, ⟨n24, n25, n26, (show ∀ pt : Int32, pt.toInt = (iv 2 5).toInt → (((0 : Int32).toInt = 1 ∧ AgR (cxP (fa 10 0) (iv 2 3).toInt (iv 2 4).toInt 0) (cxP (fa 10 0) (iv 2 3).toInt (iv 2 4).toInt 1) (owX (fa 10 0) (a).toInt) (fun s : Nat => (fa 10 0) (9 * s + 3)) (fun s : Nat => (fa 10 0) (9 * s + 4)) ((iv 10 1).toInt).toNat (caF (a).toInt) pt) ∨ ((0 : Int32).toInt = 0 ∧ ¬ AgR (cxP (fa 10 0) (iv 2 3).toInt (iv 2 4).toInt 0) (cxP (fa 10 0) (iv 2 3).toInt (iv 2 4).toInt 1) (owX (fa 10 0) (a).toInt) (fun s : Nat => (fa 10 0) (9 * s + 3)) (fun s : Nat => (fa 10 0) (9 * s + 4)) ((iv 10 1).toInt).toNat (caF (a).toInt) pt)) from (fun pt hpt => by
                have hp9 : pt = iv 2 5 := Int32.toInt_inj.mp hpt
                subst hp9
                have hm9 : ((iv 10 1).toInt).toNat ≤ 60 := by have q9 : 0 ≤ (iv 10 1).toInt ∧ (iv 10 1).toInt ≤ 60 := hI.1 10 1; omega
                have hg0 := xr23_0 0 (by decide)
                have hg1 := xr23_0 1 (by decide)
                have ho9 := xr23_1
                rw [show ((0 : Nat) : Int) = 0 from rfl] at hg0
                rw [show ((1 : Nat) : Int) = 1 from rfl] at hg1
                have hf9 : caF a.toInt = 2 := if_pos (by omega)
                have hA9 := Ag_cl (few := 2) (p := iv 2 5) hm9 (cxP_d (rw_ := fa 10 0) (b := (iv 2 3).toInt) (d := (iv 2 4).toInt)) hg0 hg1 ho9
                have hB9 := AgR_cg (few := 2) (p := iv 2 5) (P0 := (cxP (fa 10 0) (iv 2 3).toInt (iv 2 4).toInt 0)) (P1 := (cxP (fa 10 0) (iv 2 3).toInt (iv 2 4).toInt 1)) (ra := (fun s : Nat => (fa 10 0) (9 * s + 3))) (dr := (fun s : Nat => (fa 10 0) (9 * s + 4))) (n := ((iv 10 1).toInt).toNat) (fun s _ => Iff.rfl) (fun s _ => Iff.rfl) (fun s _ => (owX_5 (rw_ := fa 10 0) (c := a.toInt) (by omega)) s) (fun s _ => rfl) (fun s _ => rfl)
                rw [hf9]
                have hb9 := xr28_0
                have hd9 := xr30_0
                exact Or.inr ⟨by omega, fun z => (hA9.mpr (hB9.mpr z)).2.2.2 (hd9.resolve_right (fun q => by omega)).2⟩)), ⟨by decide, by decide⟩, rfl⟩, by rw [ht9]; exact hP9, hD9⟩, hS.F ht9⟩) hS.2.2 dX2_agreeWithout_84
        · have fc31 := z_eq (rfl : (r30).toInt = _) (by decide : (0 : Int32).toInt = 0) c31
          refine lv_iconst (v := 1) hx hb dX2_agreeWithout_79 (by decide) ?_
          refine lv_goto (tgt := 84) hx hb dX2_agreeWithout_80 (by decide) ?_
          have : (1 : Int32).toInt = 1 := (by decide)
          have hP9 : va_P (dC, dI) classes (WX h g ca iv lv (u2 fa 20 2 n24) (u2 (u2 la 20 0 n25) 20 1 n26)) H := hP
          have hD9 : va_D A (WX h g ca iv lv (u2 fa 20 2 n24) (u2 (u2 la 20 0 n25) 20 1 n26)) := hD
          exact W.zret (v := 1) hx hb hr rfl (fun t ht9 hW => ⟨⟨1, (iv, lv, (u2 fa 20 2 n24), (u2 (u2 la 20 0 n25) 20 1 n26)), rfl, ⟨n24, n25, n26, (show ∀ pt : Int32, pt.toInt = (iv 2 5).toInt → (((1 : Int32).toInt = 1 ∧ AgR (cxP (fa 10 0) (iv 2 3).toInt (iv 2 4).toInt 0) (cxP (fa 10 0) (iv 2 3).toInt (iv 2 4).toInt 1) (owX (fa 10 0) (a).toInt) (fun s : Nat => (fa 10 0) (9 * s + 3)) (fun s : Nat => (fa 10 0) (9 * s + 4)) ((iv 10 1).toInt).toNat (caF (a).toInt) pt) ∨ ((1 : Int32).toInt = 0 ∧ ¬ AgR (cxP (fa 10 0) (iv 2 3).toInt (iv 2 4).toInt 0) (cxP (fa 10 0) (iv 2 3).toInt (iv 2 4).toInt 1) (owX (fa 10 0) (a).toInt) (fun s : Nat => (fa 10 0) (9 * s + 3)) (fun s : Nat => (fa 10 0) (9 * s + 4)) ((iv 10 1).toInt).toNat (caF (a).toInt) pt)) from (fun pt hpt => by
                have hp9 : pt = iv 2 5 := Int32.toInt_inj.mp hpt
                subst hp9
                have hm9 : ((iv 10 1).toInt).toNat ≤ 60 := by have q9 : 0 ≤ (iv 10 1).toInt ∧ (iv 10 1).toInt ≤ 60 := hI.1 10 1; omega
                have hg0 := xr23_0 0 (by decide)
                have hg1 := xr23_0 1 (by decide)
                have ho9 := xr23_1
                rw [show ((0 : Nat) : Int) = 0 from rfl] at hg0
                rw [show ((1 : Nat) : Int) = 1 from rfl] at hg1
                have hf9 : caF a.toInt = 2 := if_pos (by omega)
                have hA9 := Ag_cl (few := 2) (p := iv 2 5) hm9 (cxP_d (rw_ := fa 10 0) (b := (iv 2 3).toInt) (d := (iv 2 4).toInt)) hg0 hg1 ho9
                have hB9 := AgR_cg (few := 2) (p := iv 2 5) (P0 := (cxP (fa 10 0) (iv 2 3).toInt (iv 2 4).toInt 0)) (P1 := (cxP (fa 10 0) (iv 2 3).toInt (iv 2 4).toInt 1)) (ra := (fun s : Nat => (fa 10 0) (9 * s + 3))) (dr := (fun s : Nat => (fa 10 0) (9 * s + 4))) (n := ((iv 10 1).toInt).toNat) (fun s _ => Iff.rfl) (fun s _ => Iff.rfl) (fun s _ => (owX_5 (rw_ := fa 10 0) (c := a.toInt) (by omega)) s) (fun s _ => rfl) (fun s _ => rfl)
                rw [hf9]
                have hb9 := xr28_0
                have hd9 := xr30_0
                exact Or.inl ⟨by omega, hB9.mp (hA9.mp ⟨by omega, by omega, by omega, (hd9.resolve_left (fun q => by omega)).2⟩)⟩)), ⟨by decide, by decide⟩, rfl⟩, by rw [ht9]; exact hP9, hD9⟩, hS.F ht9⟩) hS.2.2 dX2_agreeWithout_84
