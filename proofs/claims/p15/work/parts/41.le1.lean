/-! ===== le1 ===== -/

/-- the words of names: their letters are above 0 -/
def WdE (n : Int) (c k w l : Nat → Int32) : Prop := ∀ r : Nat, (r : Int) < n → ∀ j : Nat, 12 * r ≤ j → (j : Int) < 12 * (r : Int) + (c r).toInt → (k j).toInt = 2 → ∀ q : Nat, (q : Int) < (w j).toInt → 97 ≤ (l (8 * j + q)).toInt
theorem WdE_keep {n : Int} {c k w l c' k' w' l' : Nat → Int32} (h0 : 0 ≤ n) (h : WdE n c k w l) (hc : ∀ j : Nat, (c j).toInt ≤ 12) (hw : ∀ j : Nat, (w j).toInt ≤ 8) (y0 : ∀ j : Nat, j ≠ n.toNat → c' j = c j) (y1 : ∀ j : Nat, (j : Int) < 12 * n → k' j = k j ∧ w' j = w j) (y2 : ∀ j : Nat, (j : Int) < 96 * n → l' j = l j) : WdE n c' k' w' l' := by
  intro r hr j h1 h2 h3 q hq
  rw [y0 r (by omega)] at h2
  have a := hc r
  have b := y1 j (by omega)
  rw [b.1] at h3
  rw [b.2] at hq
  have d := hw j
  rw [y2 (8 * j + q) (by omega)]
  exact h r hr j h1 h2 h3 q hq
theorem WdE_add {n : Int} {c k w l c' k' w' l' : Nat → Int32} {m : Int} (h0 : 0 ≤ n) (h : WdE n c k w l) (hc : ∀ j : Nat, (c j).toInt ≤ 12) (hw : ∀ j : Nat, (w j).toInt ≤ 8) (y0 : ∀ j : Nat, j ≠ n.toNat → c' j = c j) (y1 : ∀ j : Nat, (j : Int) < 12 * n → k' j = k j ∧ w' j = w j) (y2 : ∀ j : Nat, (j : Int) < 96 * n → l' j = l j) (hm : (c' n.toNat).toInt = m) (hg : ∀ j : Nat, 12 * n ≤ (j : Int) → (j : Int) < 12 * n + m → (k' j).toInt = 2 → ∀ q : Nat, (q : Int) < (w' j).toInt → 97 ≤ (l' (8 * j + q)).toInt) : WdE (n + 1) c' k' w' l' := by
  intro r hr j h1 h2 h3 q hq
  by_cases e : (r : Int) = n
  · have er : r = n.toNat := by omega
    rw [er] at h2
    exact hg j (by omega) (by omega) h3 q hq
  · exact WdE_keep h0 h hc hw y0 y1 y2 r (by omega) j h1 h2 h3 q hq
/-- what letter answers, of the class's book and of the reference's -/
def leX (n : Int) (c k l : Nat → Int32) (a b r : Int) : Prop := (¬ (0 ≤ a ∧ a / 100 < n ∧ a % 100 < (c (a / 100).toNat).toInt) ∧ r = -100001) ∨ ((0 ≤ a ∧ a / 100 < n ∧ a % 100 < (c (a / 100).toNat).toInt) ∧ (((¬ (k (12 * (a / 100) + a % 100).toNat).toInt = 6 ∨ b < 0 ∨ 8 ≤ b) ∧ r = -1) ∨ ((k (12 * (a / 100) + a % 100).toNat).toInt = 6 ∧ 0 ≤ b ∧ b < 8 ∧ (((l (8 * (12 * (a / 100) + a % 100) + b).toNat).toInt = 0 ∧ r = -1) ∨ ((l (8 * (12 * (a / 100) + a % 100) + b).toNat).toInt ≠ 0 ∧ r = (l (8 * (12 * (a / 100) + a % 100) + b).toNat).toInt)))))
def leY (n : Int) (c k w l : Nat → Int32) (a b r : Int) : Prop := (¬ (0 ≤ a ∧ a / 100 < n ∧ a % 100 < (c (a / 100).toNat).toInt) ∧ r = -100001) ∨ ((0 ≤ a ∧ a / 100 < n ∧ a % 100 < (c (a / 100).toNat).toInt) ∧ (((¬ (k (12 * (a / 100) + a % 100).toNat).toInt = 2 ∨ b < 0 ∨ (w (12 * (a / 100) + a % 100).toNat).toInt ≤ b) ∧ r = -1) ∨ ((k (12 * (a / 100) + a % 100).toNat).toInt = 2 ∧ 0 ≤ b ∧ b < (w (12 * (a / 100) + a % 100).toNat).toInt ∧ r = (l (8 * (12 * (a / 100) + a % 100) + b).toNat).toInt)))
theorem le_un {n a b r s : Int} {dx cx kx fx sx lx dy cy ky ny fy sy wy ly : Nat → Int32} (h : BkE n dx cx kx fx sx lx dy cy ky ny fy sy wy ly) (hw : ∀ j : Nat, (wy j).toInt ≤ 8) (hd : WdE n cy ky wy ly) (x : leX n cx kx lx a b r) (y : leY n cy ky wy ly a b s) : r = s := by
  by_cases ok : 0 ≤ a ∧ a / 100 < n ∧ a % 100 < (cx (a / 100).toNat).toInt
  · have q := h (a / 100).toNat (by omega)
    have ok2 : 0 ≤ a ∧ a / 100 < n ∧ a % 100 < (cy (a / 100).toNat).toInt := by rw [← q.2.1]; exact ok
    have z := q.2.2.2.2 (12 * (a / 100) + a % 100).toNat (by omega) (by omega)
    have w8 := hw (12 * (a / 100) + a % 100).toNat
    have c := ClE_k z
    have x2 := (x.resolve_left (fun t => t.1 ok)).2
    have y2 := (y.resolve_left (fun t => t.1 ok2)).2
    rcases x2 with ⟨x3, x4⟩ | ⟨x3, x4, x5, x6⟩
    · rcases y2 with ⟨y3, y4⟩ | ⟨y3, y4, y5, y6⟩
      · omega
      · exfalso; omega
    · have zl := (z.2.2.1 x3).2 b.toNat (by omega)
      have e8 : 8 * (12 * (a / 100) + a % 100).toNat + b.toNat = (8 * (12 * (a / 100) + a % 100) + b).toNat := by omega
      have zl : (lx (8 * (12 * (a / 100) + a % 100).toNat + b.toNat)).toInt = if ((b.toNat : Nat) : Int) < (wy (12 * (a / 100) + a % 100).toNat).toInt then (ly (8 * (12 * (a / 100) + a % 100).toNat + b.toNat)).toInt else 0 := zl
      rw [e8] at zl
      rcases y2 with ⟨y3, y4⟩ | ⟨y3, y4, y5, y6⟩
      · rw [if_neg (by omega)] at zl
        omega
      · rw [if_pos (by omega)] at zl
        have g := hd (a / 100).toNat (by omega) (12 * (a / 100) + a % 100).toNat (by omega) (by omega) y3 b.toNat (by omega)
        rw [e8] at g
        omega
  · have ok2 : ¬ (0 ≤ a ∧ a / 100 < n ∧ a % 100 < (cy (a / 100).toNat).toInt) := by
      intro t
      have q := h (a / 100).toNat (by omega)
      rw [← q.2.1] at t
      exact ok t
    have x2 := x.resolve_right (fun t => ok t.1)
    have y2 := y.resolve_right (fun t => ok2 t.1)
    omega
set_option maxHeartbeats 4000000 in
set_option maxRecDepth 100000 in
/-- X1_has -/
theorem c_X1_has_l (l : Launch) (dC : Nat → ClassId) (dI : Nat → Nat → Nat) (h : Nat) (g : Nat → Nat → Nat) (ca : Nat → Nat → ClassId) (iv : Nat → Nat → Int32) (lv : Nat → Nat → Int64) (fa : Nat → Nat → Nat → Int32) (la : Nat → Nat → Nat → Int64) (hI : IX iv fa) (a : Int32) : Met l yX1_has (wc yX1_has cX1_has 2 (some .boolean)) ({ frames := 0, cells := 0, slots := 0, locals := 0 } : Room) (pR (dC, dI) classes (WX h g ca iv lv fa la) (TX ca) [.ref (g 11 3), .int a]) (vp_Si (fun r => (r = 1 ∧ (0 ≤ a.toInt ∧ a.toInt / 100 < (iv 1 7).toInt ∧ a.toInt % 100 < (fa 1 1 (a.toInt / 100).toNat).toInt)) ∨ (r = 0 ∧ ¬ (0 ≤ a.toInt ∧ a.toInt / 100 < (iv 1 7).toInt ∧ a.toInt % 100 < (fa 1 1 (a.toInt / 100).toNat).toInt)))) 0 0 (fun _ => False) := by
  refine Met.ofW (cc := cX1_has) (maxL := 2) (ret := (some .boolean)) (by decide) rfl ?_
  intro p e s m args below meth c s₁ B hml hv
  obtain ⟨rfl, hP, hK⟩ := hv
  have hx := B.exec
  have hb := B.bytes
  have hr := B.returns
  have ht := tb_tl (atoms_spec (ws := wc yX1_has cX1_has 2 (some .boolean)) B.pre)
  have hown : s.vm.findClass RX1 = some m.cls := findClass_of_methodNamed B.named
  have hlocks := B.notSynchronized
  have hl := lv_entry [.ref (g 11 3), .int a] (n := 2) (Nat.le_of_ble_eq_true rfl)
  rw [lg_entry_eq]
  generalize (lg_sl [.ref (g 11 3), .int a] ++ List.replicate (2 - (lg_sl [.ref (g 11 3), .int a]).length) Slot.unset).toArray = ls at hl ⊢
  have hl : lv_has ls 2 [(0, .ref (g 11 3)), (1, .int a)] := hl
  refine lv_iload_n hx hb dX1_has_0 rfl (lv_at hl 1 rfl) ?_
  refine lv_if_lt (tgt := 35) hx hb dX1_has_1 (by decide) (fun c1 => ?_) (fun c1 => ?_)
  · have fc1 := z_lt (rfl : (a).toInt = _) (by decide : (0 : Int32).toInt = 0) c1
    refine lv_iconst (v := 0) hx hb dX1_has_35 (by decide) ?_
    exact W.zret (v := 0) hx hb hr rfl (fun t ht9 hW => ⟨0, rfl, Or.inr ⟨rfl, by omega⟩, ht9⟩) (fun q hq => by cases hq) dX1_has_36
  · have fc1 := z_nlt (rfl : (a).toInt = _) (by decide : (0 : Int32).toInt = 0) c1
    refine lv_iload_n hx hb dX1_has_4 rfl (lv_at hl 1 rfl) ?_
    refine lv_bipush (v := 100) hx hb dX1_has_5 (by decide) ?_
    refine lv_idiv hx hb dX1_has_7 (by decide) ?_
    refine lv_topi (fun v2 ev2 => ?_)
    have tv2 := z_divp ev2 (rfl : (a).toInt = _) (by decide : (100 : Int32).toInt = 100) (by omega) (by omega)
    refine lv_aload_n hx hb dX1_has_8 rfl (lv_at hl 0 rfl) ?_
    have i_1_7 : 0 ≤ (iv 1 7).toInt ∧ (iv 1 7).toInt ≤ 8 := hI.1 1 7
    refine gX_1_7 hx hb ht hown hK hP m_196 (v := (iv 1 7)) rfl dX1_has_9 ?_
    refine lv_icmp_ge (tgt := 35) hx hb dX1_has_12 (by decide) (fun c3 => ?_) (fun c3 => ?_)
    · have fc3 := z_le (rfl : ((iv 1 7)).toInt = _) (rfl : (v2).toInt = _) c3
      refine lv_iconst (v := 0) hx hb dX1_has_35 (by decide) ?_
      exact W.zret (v := 0) hx hb hr rfl (fun t ht9 hW => ⟨0, rfl, Or.inr ⟨rfl, by omega⟩, ht9⟩) (fun q hq => by cases hq) dX1_has_36
    · have fc3 := z_nle (rfl : ((iv 1 7)).toInt = _) (rfl : (v2).toInt = _) c3
      refine lv_iload_n hx hb dX1_has_15 rfl (lv_at hl 1 rfl) ?_
      refine lv_bipush (v := 100) hx hb dX1_has_16 (by decide) ?_
      refine lv_irem hx hb dX1_has_18 (by decide) ?_
      refine lv_topi (fun v4 ev4 => ?_)
      have tv4 := z_remp ev4 (rfl : (a).toInt = _) (by decide : (100 : Int32).toInt = 100) (by omega) (by omega)
      refine lv_aload_n hx hb dX1_has_19 rfl (lv_at hl 0 rfl) ?_
      refine gX_1_1 hx hb ht hown hK hP m_190 dX1_has_20 ?_
      refine lv_iload_n hx hb dX1_has_23 rfl (lv_at hl 1 rfl) ?_
      refine lv_bipush (v := 100) hx hb dX1_has_24 (by decide) ?_
      refine lv_idiv hx hb dX1_has_26 (by decide) ?_
      refine lv_topi (fun v5 ev5 => ?_)
      obtain rfl : v2 = v5 := ev2.trans ev5.symm
      refine lX_1_1 hx hb hK hP (f := (fa 1 1)) rfl (vp_in_iff.mpr ⟨by omega, by omega⟩) dX1_has_27 ?_
      refine lv_topi (fun v6 ev6 => ?_)
      have tv6 : 0 ≤ v6.toInt ∧ v6.toInt ≤ 12 := by rw [ev6]; exact hI.2 1 1 _
      have hi9 : (v2 : Int32).toNatClampNeg = (a.toInt / 100).toNat := by show (v2 : Int32).toInt.toNat = _; omega
      have hn9 := congrArg Int32.toInt ev6
      rw [hi9] at hn9
      refine lv_icmp_ge (tgt := 35) hx hb dX1_has_28 (by decide) (fun c7 => ?_) (fun c7 => ?_)
      · have fc7 := z_le (rfl : (v6).toInt = _) (rfl : (v4).toInt = _) c7
        refine lv_iconst (v := 0) hx hb dX1_has_35 (by decide) ?_
        exact W.zret (v := 0) hx hb hr rfl (fun t ht9 hW => ⟨0, rfl, Or.inr ⟨rfl, by omega⟩, ht9⟩) (fun q hq => by cases hq) dX1_has_36
      · have fc7 := z_nle (rfl : (v6).toInt = _) (rfl : (v4).toInt = _) c7
        refine lv_iconst (v := 1) hx hb dX1_has_31 (by decide) ?_
        refine lv_goto (tgt := 36) hx hb dX1_has_32 (by decide) ?_
        exact W.zret (v := 1) hx hb hr rfl (fun t ht9 hW => ⟨1, rfl, Or.inl ⟨rfl, by omega⟩, ht9⟩) (fun q hq => by cases hq) dX1_has_36
set_option maxHeartbeats 4000000 in
set_option maxRecDepth 100000 in
/-- X1_letterOf -/
theorem c_X1_letterOf_l (l : Launch) (dC : Nat → ClassId) (dI : Nat → Nat → Nat) (h : Nat) (g : Nat → Nat → Nat) (ca : Nat → Nat → ClassId) (iv : Nat → Nat → Int32) (lv : Nat → Nat → Int64) (fa : Nat → Nat → Nat → Int32) (la : Nat → Nat → Nat → Int64) (hI : IX iv fa) (a : Int32) (b : Int32) (h_a : 0 ≤ a.toInt ∧ a.toInt ≤ 799) (hq : a.toInt / 100 ≤ 7 ∧ a.toInt % 100 ≤ 11) : Met l yX1_letterOf (wc yX1_letterOf cX1_letterOf 5 (some .int)) ({ frames := 0, cells := 0, slots := 0, locals := 0 } : Room) (pR (dC, dI) classes (WX h g ca iv lv fa la) (TX ca) [.ref (g 11 3), .int a, .int b]) (vp_Si (fun r => (True) ∧ ((((¬ ((fa 1 2) ((12 * (a.toInt / 100) + a.toInt % 100)).toNat).toInt = 6 ∨ b.toInt < 0 ∨ 8 ≤ b.toInt) ∧ r.toInt = -1) ∨ (((fa 1 2) ((12 * (a.toInt / 100) + a.toInt % 100)).toNat).toInt = 6 ∧ 0 ≤ b.toInt ∧ b.toInt < 8 ∧ ((((fa 1 5) (8 * (12 * (a.toInt / 100) + a.toInt % 100) + b.toInt).toNat).toInt = 0 ∧ r.toInt = -1) ∨ (((fa 1 5) (8 * (12 * (a.toInt / 100) + a.toInt % 100) + b.toInt).toNat).toInt ≠ 0 ∧ r.toInt = ((fa 1 5) (8 * (12 * (a.toInt / 100) + a.toInt % 100) + b.toInt).toNat).toInt))))))) 0 0 (fun _ => False) := by
  refine Met.ofW (cc := cX1_letterOf) (maxL := 5) (ret := (some .int)) (by decide) rfl ?_
  intro p e s m args below meth c s₁ B hml hv
  obtain ⟨rfl, hP, hK⟩ := hv
  have hx := B.exec
  have hb := B.bytes
  have hr := B.returns
  have ht := tb_tl (atoms_spec (ws := wc yX1_letterOf cX1_letterOf 5 (some .int)) B.pre)
  have hown : s.vm.findClass RX1 = some m.cls := findClass_of_methodNamed B.named
  have hlocks := B.notSynchronized
  have hl := lv_entry [.ref (g 11 3), .int a, .int b] (n := 5) (Nat.le_of_ble_eq_true rfl)
  rw [lg_entry_eq]
  generalize (lg_sl [.ref (g 11 3), .int a, .int b] ++ List.replicate (5 - (lg_sl [.ref (g 11 3), .int a, .int b]).length) Slot.unset).toArray = ls at hl ⊢
  have hl : lv_has ls 5 [(0, .ref (g 11 3)), (1, .int a), (2, .int b)] := hl
  refine lv_iload_n hx hb dX1_letterOf_0 rfl (lv_at hl 1 rfl) ?_
  refine lv_bipush (v := 100) hx hb dX1_letterOf_1 (by decide) ?_
  refine lv_idiv hx hb dX1_letterOf_3 (by decide) ?_
  refine lv_topi (fun v1 ev1 => ?_)
  have tv1 := z_divp ev1 (rfl : (a).toInt = _) (by decide : (100 : Int32).toInt = 100) (by omega) (by omega)
  refine lv_bipush (v := 12) hx hb dX1_letterOf_4 (by decide) ?_
  refine lv_imul hx hb dX1_letterOf_6 ?_
  refine lv_topi (fun v2 ev2 => ?_)
  have tv2 := z_mul ev2 (rfl : (v1).toInt = _) (by decide : (12 : Int32).toInt = 12) (by omega) (by omega)
  refine lv_iload_n hx hb dX1_letterOf_7 rfl (lv_at hl 1 rfl) ?_
  refine lv_bipush (v := 100) hx hb dX1_letterOf_8 (by decide) ?_
  refine lv_irem hx hb dX1_letterOf_10 (by decide) ?_
  refine lv_topi (fun v3 ev3 => ?_)
  have tv3 := z_remp ev3 (rfl : (a).toInt = _) (by decide : (100 : Int32).toInt = 100) (by omega) (by omega)
  refine lv_iadd hx hb dX1_letterOf_11 ?_
  refine lv_topi (fun v4 ev4 => ?_)
  have tv4 := z_add ev4 (rfl : (v2).toInt = _) (rfl : (v3).toInt = _) (by omega) (by omega)
  refine lv_istore_n (lv' := [(3, .int v4), (0, .ref (g 11 3)), (1, .int a), (2, .int b)]) hx hb dX1_letterOf_12 rfl hl (by decide) rfl (fun ls hl => ?_)
  refine lv_aload_n hx hb dX1_letterOf_13 rfl (lv_at hl 1 rfl) ?_
  refine gX_1_2 hx hb ht hown hK hP m_191 dX1_letterOf_14 ?_
  refine lv_iload_n hx hb dX1_letterOf_17 rfl (lv_at hl 0 rfl) ?_
  refine lX_1_2 hx hb hK hP (f := (fa 1 2)) rfl (vp_in_iff.mpr ⟨by omega, by omega⟩) dX1_letterOf_18 ?_
  refine lv_topi (fun v5 ev5 => ?_)
  refine lv_bipush (v := 6) hx hb dX1_letterOf_19 (by decide) ?_
  refine lv_icmp_ne (tgt := 34) hx hb dX1_letterOf_21 (by decide) (fun c6 => ?_) (fun c6 => ?_)
  · have fc6 := z_ne (rfl : (v5).toInt = _) (by decide : (6 : Int32).toInt = 6) c6
    refine lv_iconst (v := (-1)) hx hb dX1_letterOf_34 (by decide) ?_
    have : ((-1) : Int32).toInt = (-1) := (by decide)
    exact W.iret (v := (-1)) hx hb hr (fun t ht9 hW => ⟨(-1), rfl, ⟨trivial, (show (((¬ ((fa 1 2) ((12 * ((a).toInt / 100) + (a).toInt % 100)).toNat).toInt = 6 ∨ (b).toInt < 0 ∨ 8 ≤ (b).toInt) ∧ ((-1) : Int32).toInt = -1) ∨ (((fa 1 2) ((12 * ((a).toInt / 100) + (a).toInt % 100)).toNat).toInt = 6 ∧ 0 ≤ (b).toInt ∧ (b).toInt < 8 ∧ ((((fa 1 5) (8 * (12 * ((a).toInt / 100) + (a).toInt % 100) + (b).toInt).toNat).toInt = 0 ∧ ((-1) : Int32).toInt = -1) ∨ (((fa 1 5) (8 * (12 * ((a).toInt / 100) + (a).toInt % 100) + (b).toInt).toNat).toInt ≠ 0 ∧ ((-1) : Int32).toInt = ((fa 1 5) (8 * (12 * ((a).toInt / 100) + (a).toInt % 100) + (b).toInt).toNat).toInt)))) from (by
          have hk9 : (v4 : Int32).toNatClampNeg = (12 * (a.toInt / 100) + a.toInt % 100).toNat := by show (v4 : Int32).toInt.toNat = _; omega
          have hv9 := congrArg Int32.toInt ev5
          rw [hk9] at hv9
          exact Or.inl ⟨by omega, by omega⟩))⟩, ht9⟩) (fun q hq => by cases hq) dX1_letterOf_35
  · have fc6 := z_eq (rfl : (v5).toInt = _) (by decide : (6 : Int32).toInt = 6) c6
    refine lv_iload_n hx hb dX1_letterOf_24 rfl (lv_at hl 3 rfl) ?_
    refine lv_if_lt (tgt := 34) hx hb dX1_letterOf_25 (by decide) (fun c7 => ?_) (fun c7 => ?_)
    · have fc7 := z_lt (rfl : (b).toInt = _) (by decide : (0 : Int32).toInt = 0) c7
      refine lv_iconst (v := (-1)) hx hb dX1_letterOf_34 (by decide) ?_
      have : ((-1) : Int32).toInt = (-1) := (by decide)
      exact W.iret (v := (-1)) hx hb hr (fun t ht9 hW => ⟨(-1), rfl, ⟨trivial, (show (((¬ ((fa 1 2) ((12 * ((a).toInt / 100) + (a).toInt % 100)).toNat).toInt = 6 ∨ (b).toInt < 0 ∨ 8 ≤ (b).toInt) ∧ ((-1) : Int32).toInt = -1) ∨ (((fa 1 2) ((12 * ((a).toInt / 100) + (a).toInt % 100)).toNat).toInt = 6 ∧ 0 ≤ (b).toInt ∧ (b).toInt < 8 ∧ ((((fa 1 5) (8 * (12 * ((a).toInt / 100) + (a).toInt % 100) + (b).toInt).toNat).toInt = 0 ∧ ((-1) : Int32).toInt = -1) ∨ (((fa 1 5) (8 * (12 * ((a).toInt / 100) + (a).toInt % 100) + (b).toInt).toNat).toInt ≠ 0 ∧ ((-1) : Int32).toInt = ((fa 1 5) (8 * (12 * ((a).toInt / 100) + (a).toInt % 100) + (b).toInt).toNat).toInt)))) from (by
            have hk9 : (v4 : Int32).toNatClampNeg = (12 * (a.toInt / 100) + a.toInt % 100).toNat := by show (v4 : Int32).toInt.toNat = _; omega
            have hv9 := congrArg Int32.toInt ev5
            rw [hk9] at hv9
            exact Or.inl ⟨by omega, by omega⟩))⟩, ht9⟩) (fun q hq => by cases hq) dX1_letterOf_35
    · have fc7 := z_nlt (rfl : (b).toInt = _) (by decide : (0 : Int32).toInt = 0) c7
      refine lv_iload_n hx hb dX1_letterOf_28 rfl (lv_at hl 3 rfl) ?_
      refine lv_bipush (v := 8) hx hb dX1_letterOf_29 (by decide) ?_
      refine lv_icmp_lt (tgt := 36) hx hb dX1_letterOf_31 (by decide) (fun c8 => ?_) (fun c8 => ?_)
      · have fc8 := z_lt (rfl : (b).toInt = _) (by decide : (8 : Int32).toInt = 8) c8
        refine lv_aload_n hx hb dX1_letterOf_36 rfl (lv_at hl 1 rfl) ?_
        refine gX_1_5 hx hb ht hown hK hP m_194 dX1_letterOf_37 ?_
        refine lv_iload_n hx hb dX1_letterOf_40 rfl (lv_at hl 0 rfl) ?_
        refine lv_bipush (v := 8) hx hb dX1_letterOf_41 (by decide) ?_
        refine lv_imul hx hb dX1_letterOf_43 ?_
        refine lv_topi (fun v9 ev9 => ?_)
        have tv9 := z_mul ev9 (rfl : (v4).toInt = _) (by decide : (8 : Int32).toInt = 8) (by omega) (by omega)
        refine lv_iload_n hx hb dX1_letterOf_44 rfl (lv_at hl 3 rfl) ?_
        refine lv_iadd hx hb dX1_letterOf_45 ?_
        refine lv_topi (fun v10 ev10 => ?_)
        have tv10 := z_add ev10 (rfl : (v9).toInt = _) (rfl : (b).toInt = _) (by omega) (by omega)
        refine lX_1_5 hx hb hK hP (f := (fa 1 5)) rfl (vp_in_iff.mpr ⟨by omega, by omega⟩) dX1_letterOf_46 ?_
        refine lv_topi (fun v11 ev11 => ?_)
        refine lv_istore (lv' := [(4, .int v11), (3, .int v4), (0, .ref (g 11 3)), (1, .int a), (2, .int b)]) hx hb dX1_letterOf_47 hl (by decide) rfl (fun ls hl => ?_)
        refine lv_iload hx hb dX1_letterOf_49 (lv_at hl 0 rfl) ?_
        refine lv_if_ne (tgt := 58) hx hb dX1_letterOf_51 (by decide) (fun c12 => ?_) (fun c12 => ?_)
        · have fc12 := z_ne (rfl : (v11).toInt = _) (by decide : (0 : Int32).toInt = 0) c12
          refine lv_iload hx hb dX1_letterOf_58 (lv_at hl 0 rfl) ?_
          exact W.iret (v := v11) hx hb hr (fun t ht9 hW => ⟨v11, rfl, ⟨trivial, (show (((¬ ((fa 1 2) ((12 * ((a).toInt / 100) + (a).toInt % 100)).toNat).toInt = 6 ∨ (b).toInt < 0 ∨ 8 ≤ (b).toInt) ∧ (v11 : Int32).toInt = -1) ∨ (((fa 1 2) ((12 * ((a).toInt / 100) + (a).toInt % 100)).toNat).toInt = 6 ∧ 0 ≤ (b).toInt ∧ (b).toInt < 8 ∧ ((((fa 1 5) (8 * (12 * ((a).toInt / 100) + (a).toInt % 100) + (b).toInt).toNat).toInt = 0 ∧ (v11 : Int32).toInt = -1) ∨ (((fa 1 5) (8 * (12 * ((a).toInt / 100) + (a).toInt % 100) + (b).toInt).toNat).toInt ≠ 0 ∧ (v11 : Int32).toInt = ((fa 1 5) (8 * (12 * ((a).toInt / 100) + (a).toInt % 100) + (b).toInt).toNat).toInt)))) from (by
                have hk9 : (v4 : Int32).toNatClampNeg = (12 * (a.toInt / 100) + a.toInt % 100).toNat := by show (v4 : Int32).toInt.toNat = _; omega
                have hv9 := congrArg Int32.toInt ev5
                rw [hk9] at hv9
                have hl9 : (v10 : Int32).toNatClampNeg = (8 * (12 * (a.toInt / 100) + a.toInt % 100) + b.toInt).toNat := by show (v10 : Int32).toInt.toNat = _; omega
                have hw9 := congrArg Int32.toInt ev11
                rw [hl9] at hw9
                exact Or.inr ⟨by omega, by omega, by omega, Or.inr ⟨by omega, by omega⟩⟩))⟩, ht9⟩) (fun q hq => by cases hq) dX1_letterOf_60
        · have fc12 := z_eq (rfl : (v11).toInt = _) (by decide : (0 : Int32).toInt = 0) c12
          refine lv_iconst (v := (-1)) hx hb dX1_letterOf_54 (by decide) ?_
          refine lv_goto (tgt := 60) hx hb dX1_letterOf_55 (by decide) ?_
          have : ((-1) : Int32).toInt = (-1) := (by decide)
          exact W.iret (v := (-1)) hx hb hr (fun t ht9 hW => ⟨(-1), rfl, ⟨trivial, (show (((¬ ((fa 1 2) ((12 * ((a).toInt / 100) + (a).toInt % 100)).toNat).toInt = 6 ∨ (b).toInt < 0 ∨ 8 ≤ (b).toInt) ∧ ((-1) : Int32).toInt = -1) ∨ (((fa 1 2) ((12 * ((a).toInt / 100) + (a).toInt % 100)).toNat).toInt = 6 ∧ 0 ≤ (b).toInt ∧ (b).toInt < 8 ∧ ((((fa 1 5) (8 * (12 * ((a).toInt / 100) + (a).toInt % 100) + (b).toInt).toNat).toInt = 0 ∧ ((-1) : Int32).toInt = -1) ∨ (((fa 1 5) (8 * (12 * ((a).toInt / 100) + (a).toInt % 100) + (b).toInt).toNat).toInt ≠ 0 ∧ ((-1) : Int32).toInt = ((fa 1 5) (8 * (12 * ((a).toInt / 100) + (a).toInt % 100) + (b).toInt).toNat).toInt)))) from (by
                have hk9 : (v4 : Int32).toNatClampNeg = (12 * (a.toInt / 100) + a.toInt % 100).toNat := by show (v4 : Int32).toInt.toNat = _; omega
                have hv9 := congrArg Int32.toInt ev5
                rw [hk9] at hv9
                have hl9 : (v10 : Int32).toNatClampNeg = (8 * (12 * (a.toInt / 100) + a.toInt % 100) + b.toInt).toNat := by show (v10 : Int32).toInt.toNat = _; omega
                have hw9 := congrArg Int32.toInt ev11
                rw [hl9] at hw9
                exact Or.inr ⟨by omega, by omega, by omega, Or.inl ⟨by omega, by omega⟩⟩))⟩, ht9⟩) (fun q hq => by cases hq) dX1_letterOf_60
      · have fc8 := z_nlt (rfl : (b).toInt = _) (by decide : (8 : Int32).toInt = 8) c8
        refine lv_iconst (v := (-1)) hx hb dX1_letterOf_34 (by decide) ?_
        have : ((-1) : Int32).toInt = (-1) := (by decide)
        exact W.iret (v := (-1)) hx hb hr (fun t ht9 hW => ⟨(-1), rfl, ⟨trivial, (show (((¬ ((fa 1 2) ((12 * ((a).toInt / 100) + (a).toInt % 100)).toNat).toInt = 6 ∨ (b).toInt < 0 ∨ 8 ≤ (b).toInt) ∧ ((-1) : Int32).toInt = -1) ∨ (((fa 1 2) ((12 * ((a).toInt / 100) + (a).toInt % 100)).toNat).toInt = 6 ∧ 0 ≤ (b).toInt ∧ (b).toInt < 8 ∧ ((((fa 1 5) (8 * (12 * ((a).toInt / 100) + (a).toInt % 100) + (b).toInt).toNat).toInt = 0 ∧ ((-1) : Int32).toInt = -1) ∨ (((fa 1 5) (8 * (12 * ((a).toInt / 100) + (a).toInt % 100) + (b).toInt).toNat).toInt ≠ 0 ∧ ((-1) : Int32).toInt = ((fa 1 5) (8 * (12 * ((a).toInt / 100) + (a).toInt % 100) + (b).toInt).toNat).toInt)))) from (by
              have hk9 : (v4 : Int32).toNatClampNeg = (12 * (a.toInt / 100) + a.toInt % 100).toNat := by show (v4 : Int32).toInt.toNat = _; omega
              have hv9 := congrArg Int32.toInt ev5
              rw [hk9] at hv9
              exact Or.inl ⟨by omega, by omega⟩))⟩, ht9⟩) (fun q hq => by cases hq) dX1_letterOf_35
set_option maxHeartbeats 4000000 in
set_option maxRecDepth 100000 in
/-- X11_letter -/
theorem c_X11_letter_l (l : Launch) (dC : Nat → ClassId) (dI : Nat → Nat → Nat) (h : Nat) (g : Nat → Nat → Nat) (ca : Nat → Nat → ClassId) (iv : Nat → Nat → Int32) (lv : Nat → Nat → Int64) (fa : Nat → Nat → Nat → Int32) (la : Nat → Nat → Nat → Int64) (hI : IX iv fa) (a : Int32) (b : Int32) : Met l yX11_letter (wc yX11_letter cX11_letter 3 (some .int)) ({ frames := 1, cells := 0, slots := 0, locals := 24 } : Room) (pR (dC, dI) classes (WX h g ca iv lv fa la) (TX ca) [.ref h, .int a, .int b]) (vp_Si (fun r => (True) ∧ (leX (iv 1 7).toInt (fa 1 1) (fa 1 2) (fa 1 5) a.toInt b.toInt r.toInt))) 0 0 (fun _ => False) := by
  refine Met.ofW (cc := cX11_letter) (maxL := 3) (ret := (some .int)) (by decide) rfl ?_
  intro p e s m args below meth c s₁ B hml hv
  obtain ⟨rfl, hP, hK⟩ := hv
  have hx := B.exec
  have hb := B.bytes
  have hr := B.returns
  have ht := tb_tl (atoms_spec (ws := wc yX11_letter cX11_letter 3 (some .int)) B.pre)
  have hown : s.vm.findClass RX11 = some m.cls := findClass_of_methodNamed B.named
  have hlocks := B.notSynchronized
  have hl := lv_entry [.ref h, .int a, .int b] (n := 3) (Nat.le_of_ble_eq_true rfl)
  rw [lg_entry_eq]
  generalize (lg_sl [.ref h, .int a, .int b] ++ List.replicate (3 - (lg_sl [.ref h, .int a, .int b]).length) Slot.unset).toArray = ls at hl ⊢
  have hl : lv_has ls 3 [(0, .ref h), (1, .int a), (2, .int b)] := hl
  refine lv_aload_n hx hb dX11_letter_0 rfl (lv_at hl 0 rfl) ?_
  refine gX_11_3 hx hb ht hown hK hP m_418 dX11_letter_1 ?_
  refine lv_iload_n hx hb dX11_letter_4 rfl (lv_at hl 1 rfl) ?_
  refine vp_callSi (W.runV (As := [.int a]) (rest := []) ⟨hx, hb, hml, hown, ht⟩ (c_X1_has_l l dC dI h g ca iv lv fa la hI a) (kV 1 ht m_821 m_822 m_823 m_81 m_824 rfl rfl hd_X1_has_v ⟨Nat.le_of_ble_eq_true rfl, Nat.le_of_ble_eq_true rfl⟩) (vR hP hK (rX_1 hK hP)) rfl rfl hl.1 rfl (lv_room (Nat.le_of_ble_eq_true rfl)) dX11_letter_5 ⟨Nat.le_of_ble_eq_true rfl, Nat.le_of_ble_eq_true rfl⟩) (fun r1 hr1 => ?_)
  rcases hr1 with ⟨rfl, fr1⟩ | ⟨rfl, fr1⟩
  · skip
    have fr1 : (0 ≤ (a : Int32).toInt ∧ (a : Int32).toInt / 100 < (iv 1 7).toInt ∧ (a : Int32).toInt % 100 < (fa 1 1 ((a : Int32).toInt / 100).toNat).toInt) := fr1
    have i_1_7 : 0 ≤ (iv 1 7).toInt ∧ (iv 1 7).toInt ≤ 8 := hI.1 1 7
    have hb9 : 0 ≤ (fa 1 1 ((a : Int32).toInt / 100).toNat).toInt ∧ (fa 1 1 ((a : Int32).toInt / 100).toNat).toInt ≤ 12 := hI.2 1 1 _
    refine lv_if_eq (tgt := 23) hx hb dX11_letter_8 (by decide) (fun c2 => ?_) (fun c2 => ?_)
    · exact absurd c2 (by decide)
    · skip
      refine lv_aload_n hx hb dX11_letter_11 rfl (lv_at hl 0 rfl) ?_
      refine gX_11_3 hx hb ht hown hK hP m_418 dX11_letter_12 ?_
      refine lv_iload_n hx hb dX11_letter_15 rfl (lv_at hl 1 rfl) ?_
      refine lv_iload_n hx hb dX11_letter_16 rfl (lv_at hl 2 rfl) ?_
      refine vp_callSi (W.runV (As := [.int a, .int b]) (rest := []) ⟨hx, hb, hml, hown, ht⟩ (c_X1_letterOf_l l dC dI h g ca iv lv fa la hI a b ⟨by omega, by omega⟩ ⟨by omega, by omega⟩) (kV 2 ht m_825 m_826 m_827 m_81 m_828 rfl rfl hd_X1_letterOf_v ⟨Nat.le_of_ble_eq_true rfl, Nat.le_of_ble_eq_true rfl⟩) (vR hP hK (rX_1 hK hP)) rfl rfl hl.1 rfl (lv_room (Nat.le_of_ble_eq_true rfl)) dX11_letter_17 ⟨Nat.le_of_ble_eq_true rfl, Nat.le_of_ble_eq_true rfl⟩) (fun r3 hr3 => ?_)
      obtain ⟨hr3, xr3_0⟩ := hr3
      have xr3_0 : (((¬ ((fa 1 2) ((12 * ((a : Int32).toInt / 100) + (a : Int32).toInt % 100)).toNat).toInt = 6 ∨ (b : Int32).toInt < 0 ∨ 8 ≤ (b : Int32).toInt) ∧ (r3 : Int32).toInt = -1) ∨ (((fa 1 2) ((12 * ((a : Int32).toInt / 100) + (a : Int32).toInt % 100)).toNat).toInt = 6 ∧ 0 ≤ (b : Int32).toInt ∧ (b : Int32).toInt < 8 ∧ ((((fa 1 5) (8 * (12 * ((a : Int32).toInt / 100) + (a : Int32).toInt % 100) + (b : Int32).toInt).toNat).toInt = 0 ∧ (r3 : Int32).toInt = -1) ∨ (((fa 1 5) (8 * (12 * ((a : Int32).toInt / 100) + (a : Int32).toInt % 100) + (b : Int32).toInt).toNat).toInt ≠ 0 ∧ (r3 : Int32).toInt = ((fa 1 5) (8 * (12 * ((a : Int32).toInt / 100) + (a : Int32).toInt % 100) + (b : Int32).toInt).toNat).toInt)))) := xr3_0
      refine lv_goto (tgt := 25) hx hb dX11_letter_20 (by decide) ?_
      have i_1_7 : 0 ≤ (iv 1 7).toInt ∧ (iv 1 7).toInt ≤ 8 := hI.1 1 7
      exact W.iret (v := r3) hx hb hr (fun t ht9 hW => ⟨r3, rfl, ⟨trivial, (show leX ((iv 1 7) : Int32).toInt (fa 1 1) (fa 1 2) (fa 1 5) (a).toInt (b).toInt (r3 : Int32).toInt from Or.inr ⟨by omega, xr3_0⟩)⟩, ht9⟩) (fun q hq => by cases hq) dX11_letter_25
  · skip
    have fr1 : ¬ (0 ≤ (a : Int32).toInt ∧ (a : Int32).toInt / 100 < (iv 1 7).toInt ∧ (a : Int32).toInt % 100 < (fa 1 1 ((a : Int32).toInt / 100).toNat).toInt) := fr1
    refine lv_if_eq (tgt := 23) hx hb dX11_letter_8 (by decide) (fun c4 => ?_) (fun c4 => ?_)
    · skip
      refine lv_ldc hx hb hown (ht _ m_476) dX11_letter_23 ?_
      have i_1_7 : 0 ≤ (iv 1 7).toInt ∧ (iv 1 7).toInt ≤ 8 := hI.1 1 7
      have : ((-100001) : Int32).toInt = (-100001) := (by decide)
      exact W.iret (v := (-100001)) hx hb hr (fun t ht9 hW => ⟨(-100001), rfl, ⟨trivial, (show leX ((iv 1 7) : Int32).toInt (fa 1 1) (fa 1 2) (fa 1 5) (a).toInt (b).toInt ((-100001) : Int32).toInt from Or.inl ⟨by omega, by omega⟩)⟩, ht9⟩) (fun q hq => by cases hq) dX11_letter_25
    · exact absurd rfl c4
set_option maxHeartbeats 4000000 in
set_option maxRecDepth 100000 in
/-- X12_letter -/
theorem c_X12_letter_l (l : Launch) (dC : Nat → ClassId) (dI : Nat → Nat → Nat) (h : Nat) (g : Nat → Nat → Nat) (ca : Nat → Nat → ClassId) (iv : Nat → Nat → Int32) (lv : Nat → Nat → Int64) (fa : Nat → Nat → Nat → Int32) (la : Nat → Nat → Nat → Int64) (hI : IX iv fa) (a : Int32) (b : Int32) : Met l yX12_letter (wc yX12_letter cX12_letter 4 (some .int)) ({ frames := 1, cells := 0, slots := 0, locals := 25 } : Room) (pR (dC, dI) classes (WM h g ca iv lv fa la) (TM ca) [.ref h, .int a, .int b]) (vp_Si (fun r => (True) ∧ (leY (iv 12 23).toInt (fa 12 25) (fa 12 26) (fa 12 30) (fa 12 31) a.toInt b.toInt r.toInt))) 0 0 (fun _ => False) := by
  refine Met.ofW (cc := cX12_letter) (maxL := 4) (ret := (some .int)) (by decide) rfl ?_
  intro p e s m args below meth c s₁ B hml hv
  obtain ⟨rfl, hP, hK⟩ := hv
  have hx := B.exec
  have hb := B.bytes
  have hr := B.returns
  have ht := tb_tl (atoms_spec (ws := wc yX12_letter cX12_letter 4 (some .int)) B.pre)
  have hown : s.vm.findClass RX12 = some m.cls := findClass_of_methodNamed B.named
  have hlocks := B.notSynchronized
  have hl := lv_entry [.ref h, .int a, .int b] (n := 4) (Nat.le_of_ble_eq_true rfl)
  rw [lg_entry_eq]
  generalize (lg_sl [.ref h, .int a, .int b] ++ List.replicate (4 - (lg_sl [.ref h, .int a, .int b]).length) Slot.unset).toArray = ls at hl ⊢
  have hl : lv_has ls 4 [(0, .ref h), (1, .int a), (2, .int b)] := hl
  refine lv_iload_n hx hb dX12_letter_0 rfl (lv_at hl 1 rfl) ?_
  refine lv_if_lt (tgt := 31) hx hb dX12_letter_1 (by decide) (fun c1 => ?_) (fun c1 => ?_)
  · have fc1 := z_lt (rfl : (a).toInt = _) (by decide : (0 : Int32).toInt = 0) c1
    refine lv_ldc hx hb hown (ht _ m_1389) dX12_letter_31 ?_
    have i_12_23 : 0 ≤ (iv 12 23).toInt ∧ (iv 12 23).toInt ≤ 8 := hI.1 12 23
    have : ((-100001) : Int32).toInt = (-100001) := (by decide)
    exact W.iret (v := (-100001)) hx hb hr (fun t ht9 hW => ⟨(-100001), rfl, ⟨trivial, (show leY ((iv 12 23) : Int32).toInt (fa 12 25) (fa 12 26) (fa 12 30) (fa 12 31) (a).toInt (b).toInt ((-100001) : Int32).toInt from (by exact Or.inl ⟨by omega, by omega⟩))⟩, ht9⟩) (fun q hq => by cases hq) dX12_letter_33
  · have fc1 := z_nlt (rfl : (a).toInt = _) (by decide : (0 : Int32).toInt = 0) c1
    refine lv_iload_n hx hb dX12_letter_4 rfl (lv_at hl 1 rfl) ?_
    refine lv_bipush (v := 100) hx hb dX12_letter_5 (by decide) ?_
    refine lv_idiv hx hb dX12_letter_7 (by decide) ?_
    refine lv_topi (fun v2 ev2 => ?_)
    have tv2 := z_divp ev2 (rfl : (a).toInt = _) (by decide : (100 : Int32).toInt = 100) (by omega) (by omega)
    refine lv_aload_n hx hb dX12_letter_8 rfl (lv_at hl 0 rfl) ?_
    have i_12_23 : 0 ≤ (iv 12 23).toInt ∧ (iv 12 23).toInt ≤ 8 := hI.1 12 23
    refine gM_12_23 hx hb ht hown hK hP m_1162 (v := (iv 12 23)) rfl dX12_letter_9 ?_
    refine lv_icmp_ge (tgt := 31) hx hb dX12_letter_12 (by decide) (fun c3 => ?_) (fun c3 => ?_)
    · have fc3 := z_le (rfl : ((iv 12 23)).toInt = _) (rfl : (v2).toInt = _) c3
      refine lv_ldc hx hb hown (ht _ m_1389) dX12_letter_31 ?_
      have : ((-100001) : Int32).toInt = (-100001) := (by decide)
      exact W.iret (v := (-100001)) hx hb hr (fun t ht9 hW => ⟨(-100001), rfl, ⟨trivial, (show leY ((iv 12 23) : Int32).toInt (fa 12 25) (fa 12 26) (fa 12 30) (fa 12 31) (a).toInt (b).toInt ((-100001) : Int32).toInt from (by exact Or.inl ⟨by omega, by omega⟩))⟩, ht9⟩) (fun q hq => by cases hq) dX12_letter_33
    · have fc3 := z_nle (rfl : ((iv 12 23)).toInt = _) (rfl : (v2).toInt = _) c3
      refine lv_iload_n hx hb dX12_letter_15 rfl (lv_at hl 1 rfl) ?_
      refine lv_bipush (v := 100) hx hb dX12_letter_16 (by decide) ?_
      refine lv_irem hx hb dX12_letter_18 (by decide) ?_
      refine lv_topi (fun v4 ev4 => ?_)
      have tv4 := z_remp ev4 (rfl : (a).toInt = _) (by decide : (100 : Int32).toInt = 100) (by omega) (by omega)
      refine lv_aload_n hx hb dX12_letter_19 rfl (lv_at hl 0 rfl) ?_
      refine gM_12_25 hx hb ht hown hK hP m_1164 dX12_letter_20 ?_
      refine lv_iload_n hx hb dX12_letter_23 rfl (lv_at hl 1 rfl) ?_
      refine lv_bipush (v := 100) hx hb dX12_letter_24 (by decide) ?_
      refine lv_idiv hx hb dX12_letter_26 (by decide) ?_
      refine lv_topi (fun v5 ev5 => ?_)
      obtain rfl : v2 = v5 := ev2.trans ev5.symm
      refine lM_12_25 hx hb hK hP (f := (fa 12 25)) rfl (vp_in_iff.mpr ⟨by omega, by omega⟩) dX12_letter_27 ?_
      refine lv_topi (fun v6 ev6 => ?_)
      have tv6 : 0 ≤ v6.toInt ∧ v6.toInt ≤ 12 := by rw [ev6]; exact hI.2 12 25 _
      have hi9 : (v2 : Int32).toNatClampNeg = (a.toInt / 100).toNat := by show (v2 : Int32).toInt.toNat = _; omega
      have hn9 := congrArg Int32.toInt ev6
      rw [hi9] at hn9
      refine lv_icmp_lt (tgt := 34) hx hb dX12_letter_28 (by decide) (fun c7 => ?_) (fun c7 => ?_)
      · have fc7 := z_lt (rfl : (v4).toInt = _) (rfl : (v6).toInt = _) c7
        refine lv_bipush (v := 12) hx hb dX12_letter_34 (by decide) ?_
        refine lv_iload_n hx hb dX12_letter_36 rfl (lv_at hl 1 rfl) ?_
        refine lv_bipush (v := 100) hx hb dX12_letter_37 (by decide) ?_
        refine lv_idiv hx hb dX12_letter_39 (by decide) ?_
        refine lv_topi (fun v8 ev8 => ?_)
        obtain rfl : v2 = v8 := ev2.trans ev8.symm
        refine lv_imul hx hb dX12_letter_40 ?_
        refine lv_topi (fun v9 ev9 => ?_)
        have tv9 := z_mul ev9 (by decide : (12 : Int32).toInt = 12) (rfl : (v2).toInt = _) (by omega) (by omega)
        refine lv_iload_n hx hb dX12_letter_41 rfl (lv_at hl 1 rfl) ?_
        refine lv_bipush (v := 100) hx hb dX12_letter_42 (by decide) ?_
        refine lv_irem hx hb dX12_letter_44 (by decide) ?_
        refine lv_topi (fun v10 ev10 => ?_)
        obtain rfl : v4 = v10 := ev4.trans ev10.symm
        refine lv_iadd hx hb dX12_letter_45 ?_
        refine lv_topi (fun v11 ev11 => ?_)
        have tv11 := z_add ev11 (rfl : (v9).toInt = _) (rfl : (v4).toInt = _) (by omega) (by omega)
        have i9 : 0 ≤ (iv 12 23).toInt ∧ (iv 12 23).toInt ≤ 8 := hI.1 12 23
        have hk9 : (v11 : Int32).toNatClampNeg = (12 * (a.toInt / 100) + a.toInt % 100).toNat := by show (v11 : Int32).toInt.toNat = _; omega
        refine lv_istore_n (lv' := [(3, .int v11), (0, .ref h), (1, .int a), (2, .int b)]) hx hb dX12_letter_46 rfl hl (by decide) rfl (fun ls hl => ?_)
        refine lv_aload_n hx hb dX12_letter_47 rfl (lv_at hl 1 rfl) ?_
        refine gM_12_26 hx hb ht hown hK hP m_1165 dX12_letter_48 ?_
        refine lv_iload_n hx hb dX12_letter_51 rfl (lv_at hl 0 rfl) ?_
        refine lM_12_26 hx hb hK hP (f := (fa 12 26)) rfl (vp_in_iff.mpr ⟨by omega, by omega⟩) dX12_letter_52 ?_
        refine lv_topi (fun v12 ev12 => ?_)
        refine lv_iconst (v := 2) hx hb dX12_letter_53 (by decide) ?_
        refine lv_icmp_ne (tgt := 89) hx hb dX12_letter_54 (by decide) (fun c13 => ?_) (fun c13 => ?_)
        · have fc13 := z_ne (rfl : (v12).toInt = _) (by decide : (2 : Int32).toInt = 2) c13
          refine lv_iconst (v := (-1)) hx hb dX12_letter_89 (by decide) ?_
          have : ((-1) : Int32).toInt = (-1) := (by decide)
          exact W.iret (v := (-1)) hx hb hr (fun t ht9 hW => ⟨(-1), rfl, ⟨trivial, (show leY ((iv 12 23) : Int32).toInt (fa 12 25) (fa 12 26) (fa 12 30) (fa 12 31) (a).toInt (b).toInt ((-1) : Int32).toInt from (by
                have hv9 := congrArg Int32.toInt ev12
                rw [hk9] at hv9
                exact Or.inr ⟨by omega, Or.inl ⟨by omega, by omega⟩⟩))⟩, ht9⟩) (fun q hq => by cases hq) dX12_letter_90
        · have fc13 := z_eq (rfl : (v12).toInt = _) (by decide : (2 : Int32).toInt = 2) c13
          refine lv_iload_n hx hb dX12_letter_57 rfl (lv_at hl 3 rfl) ?_
          refine lv_i2l (v := (b.toInt64)) hx hb dX12_letter_58 rfl ?_
          refine lv_lconst (v := 0) hx hb dX12_letter_59 (by decide) ?_
          refine lv_aload_n hx hb dX12_letter_60 rfl (lv_at hl 1 rfl) ?_
          refine gM_12_30 hx hb ht hown hK hP m_1169 dX12_letter_61 ?_
          refine lv_iload_n hx hb dX12_letter_64 rfl (lv_at hl 0 rfl) ?_
          refine lM_12_30 hx hb hK hP (f := (fa 12 30)) rfl (vp_in_iff.mpr ⟨by omega, by omega⟩) dX12_letter_65 ?_
          refine lv_topi (fun v14 ev14 => ?_)
          have tv14 : 0 ≤ v14.toInt ∧ v14.toInt ≤ 8 := by rw [ev14]; exact hI.2 12 30 _
          refine lv_iconst (v := 1) hx hb dX12_letter_66 (by decide) ?_
          refine lv_isub hx hb dX12_letter_67 ?_
          refine lv_topi (fun v15 ev15 => ?_)
          have tv15 := z_sub ev15 (rfl : (v14).toInt = _) (by decide : (1 : Int32).toInt = 1) (by omega) (by omega)
          refine lv_i2l (v := (v15.toInt64)) hx hb dX12_letter_68 rfl ?_
          refine vp_callSi (W.runS (As := [.long (b.toInt64), .long 0, .long (v15.toInt64)]) (rest := []) ⟨hx, hb, hml, hown, ht⟩ (c_X12_in l dC dI (b.toInt64) 0 (v15.toInt64) (b.toInt) (0) (v15.toInt) ((Int32.toInt_toInt64 b).trans rfl) (by decide : (0 : Int64).toInt = 0) ((Int32.toInt_toInt64 v15).trans rfl)) (kS 3 ht m_1370 m_1371 m_89 m_1372 rfl rfl hd_X12_in_v ⟨Nat.le_of_ble_eq_true rfl, Nat.le_of_ble_eq_true rfl⟩) (sR noP (hK.sub (tys' := []) [] rfl)) rfl rfl hl.1 rfl (lv_room (Nat.le_of_ble_eq_true rfl)) dX12_letter_69 ⟨Nat.le_of_ble_eq_true rfl, Nat.le_of_ble_eq_true rfl⟩) (fun r16 hr16 => ?_)
          rcases hr16 with ⟨rfl, fr16⟩ | ⟨rfl, fr16⟩
          · skip
            refine lv_if_eq (tgt := 89) hx hb dX12_letter_72 (by decide) (fun c17 => ?_) (fun c17 => ?_)
            · exact absurd c17 (by decide)
            · skip
              refine lv_aload_n hx hb dX12_letter_75 rfl (lv_at hl 1 rfl) ?_
              refine gM_12_31 hx hb ht hown hK hP m_1170 dX12_letter_76 ?_
              refine lv_bipush (v := 8) hx hb dX12_letter_79 (by decide) ?_
              refine lv_iload_n hx hb dX12_letter_81 rfl (lv_at hl 0 rfl) ?_
              refine lv_imul hx hb dX12_letter_82 ?_
              refine lv_topi (fun v18 ev18 => ?_)
              have tv18 := z_mul ev18 (by decide : (8 : Int32).toInt = 8) (rfl : (v11).toInt = _) (by omega) (by omega)
              refine lv_iload_n hx hb dX12_letter_83 rfl (lv_at hl 3 rfl) ?_
              refine lv_iadd hx hb dX12_letter_84 ?_
              refine lv_topi (fun v19 ev19 => ?_)
              have tv19 := z_add ev19 (rfl : (v18).toInt = _) (rfl : (b).toInt = _) (by omega) (by omega)
              refine lM_12_31 hx hb hK hP (f := (fa 12 31)) rfl (vp_in_iff.mpr ⟨by omega, by omega⟩) dX12_letter_85 ?_
              refine lv_topi (fun v20 ev20 => ?_)
              refine lv_goto (tgt := 90) hx hb dX12_letter_86 (by decide) ?_
              exact W.iret (v := v20) hx hb hr (fun t ht9 hW => ⟨v20, rfl, ⟨trivial, (show leY ((iv 12 23) : Int32).toInt (fa 12 25) (fa 12 26) (fa 12 30) (fa 12 31) (a).toInt (b).toInt (v20 : Int32).toInt from (by
                    have hv9 := congrArg Int32.toInt ev12
                    rw [hk9] at hv9
                    have hw9 := congrArg Int32.toInt ev14
                    rw [hk9] at hw9
                    have hl9 : (v19 : Int32).toNatClampNeg = (8 * (12 * (a.toInt / 100) + a.toInt % 100) + b.toInt).toNat := by show (v19 : Int32).toInt.toNat = _; omega
                    have hx9 := congrArg Int32.toInt ev20
                    rw [hl9] at hx9
                    exact Or.inr ⟨by omega, Or.inr ⟨by omega, by omega, by omega, by omega⟩⟩))⟩, ht9⟩) (fun q hq => by cases hq) dX12_letter_90
          · skip
            refine lv_if_eq (tgt := 89) hx hb dX12_letter_72 (by decide) (fun c21 => ?_) (fun c21 => ?_)
            · skip
              refine lv_iconst (v := (-1)) hx hb dX12_letter_89 (by decide) ?_
              have : ((-1) : Int32).toInt = (-1) := (by decide)
              exact W.iret (v := (-1)) hx hb hr (fun t ht9 hW => ⟨(-1), rfl, ⟨trivial, (show leY ((iv 12 23) : Int32).toInt (fa 12 25) (fa 12 26) (fa 12 30) (fa 12 31) (a).toInt (b).toInt ((-1) : Int32).toInt from (by
                    have hv9 := congrArg Int32.toInt ev12
                    rw [hk9] at hv9
                    have hw9 := congrArg Int32.toInt ev14
                    rw [hk9] at hw9
                    exact Or.inr ⟨by omega, Or.inl ⟨by omega, by omega⟩⟩))⟩, ht9⟩) (fun q hq => by cases hq) dX12_letter_90
            · exact absurd rfl c21
      · have fc7 := z_nlt (rfl : (v4).toInt = _) (rfl : (v6).toInt = _) c7
        refine lv_ldc hx hb hown (ht _ m_1389) dX12_letter_31 ?_
        have : ((-100001) : Int32).toInt = (-100001) := (by decide)
        exact W.iret (v := (-100001)) hx hb hr (fun t ht9 hW => ⟨(-100001), rfl, ⟨trivial, (show leY ((iv 12 23) : Int32).toInt (fa 12 25) (fa 12 26) (fa 12 30) (fa 12 31) (a).toInt (b).toInt ((-100001) : Int32).toInt from (by exact Or.inl ⟨by omega, by omega⟩))⟩, ht9⟩) (fun q hq => by cases hq) dX12_letter_33
