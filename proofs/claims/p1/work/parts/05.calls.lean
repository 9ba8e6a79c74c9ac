set_option maxHeartbeats 4000000 in
set_option maxRecDepth 100000 in
/-- X11_within -/
theorem c_X11_within (l : Launch) (dC : Nat → ClassId) (dI : Nat → Nat → Nat) (n : Int32) (lo : Int32) (hi : Int32) (N L M : Int) (hn : n.toInt = N) (hlo : lo.toInt = L) (hhi : hi.toInt = M) : Met l yX11_within (wc yX11_within cX11_within 3 (some .boolean)) ({ frames := 0, cells := 0, slots := 0, locals := 0 } : Room) (pR (dC, dI) classes [] [] [.int n, .int lo, .int hi]) (vp_Si (fun r => (r = 1 ∧ (L ≤ N ∧ N ≤ M)) ∨ (r = 0 ∧ ¬ (L ≤ N ∧ N ≤ M)))) 0 0 (fun _ => False) := by
  refine Met.ofW (cc := cX11_within) (maxL := 3) (ret := (some .boolean)) (by decide) rfl ?_
  intro p e s m args below meth c s₁ B hml hv
  obtain ⟨rfl, hP, hK⟩ := hv
  have hx := B.exec
  have hb := B.bytes
  have hr := B.returns
  have ht := tb_tl (atoms_spec (ws := wc yX11_within cX11_within 3 (some .boolean)) B.pre)
  have hown : s.vm.findClass RX11 = some m.cls := findClass_of_methodNamed B.named
  have hlocks := B.notSynchronized
  have hl := lv_entry [.int n, .int lo, .int hi] (n := 3) (Nat.le_of_ble_eq_true rfl)
  rw [lg_entry_eq]
  generalize (lg_sl [.int n, .int lo, .int hi] ++ List.replicate (3 - (lg_sl [.int n, .int lo, .int hi]).length) Slot.unset).toArray = ls at hl ⊢
  have hl : lv_has ls 3 [(0, .int n), (1, .int lo), (2, .int hi)] := hl
  refine lv_iload_n hx hb dX11_within_0 rfl (lv_at hl 0 rfl) ?_
  refine lv_iload_n hx hb dX11_within_1 rfl (lv_at hl 1 rfl) ?_
  refine lv_icmp_lt (tgt := 14) hx hb dX11_within_2 (by decide) (fun c1 => ?_) (fun c1 => ?_)
  · have fc1 := z_lt hn hlo c1
    refine lv_iconst (v := 0) hx hb dX11_within_14 (by decide) ?_
    exact W.zret (v := 0) hx hb hr rfl (fun t ht9 hW => ⟨0, rfl, Or.inr ⟨rfl, by omega⟩, ht9⟩) (fun q hq => by cases hq) dX11_within_15
  · have fc1 := z_nlt hn hlo c1
    refine lv_iload_n hx hb dX11_within_5 rfl (lv_at hl 0 rfl) ?_
    refine lv_iload_n hx hb dX11_within_6 rfl (lv_at hl 2 rfl) ?_
    refine lv_icmp_gt (tgt := 14) hx hb dX11_within_7 (by decide) (fun c2 => ?_) (fun c2 => ?_)
    · have fc2 := z_lt hhi hn c2
      refine lv_iconst (v := 0) hx hb dX11_within_14 (by decide) ?_
      exact W.zret (v := 0) hx hb hr rfl (fun t ht9 hW => ⟨0, rfl, Or.inr ⟨rfl, by omega⟩, ht9⟩) (fun q hq => by cases hq) dX11_within_15
    · have fc2 := z_nlt hhi hn c2
      refine lv_iconst (v := 1) hx hb dX11_within_10 (by decide) ?_
      refine lv_goto (tgt := 15) hx hb dX11_within_11 (by decide) ?_
      exact W.zret (v := 1) hx hb hr rfl (fun t ht9 hW => ⟨1, rfl, Or.inl ⟨rfl, by omega⟩, ht9⟩) (fun q hq => by cases hq) dX11_within_15
set_option maxHeartbeats 4000000 in
set_option maxRecDepth 100000 in
/-- X12_in -/
theorem c_X12_in (l : Launch) (dC : Nat → ClassId) (dI : Nat → Nat → Nat) (n : Int64) (lo : Int64) (hi : Int64) (N L M : Int) (hn : n.toInt = N) (hlo : lo.toInt = L) (hhi : hi.toInt = M) : Met l yX12_in (wc yX12_in cX12_in 6 (some .boolean)) ({ frames := 0, cells := 0, slots := 0, locals := 0 } : Room) (pR (dC, dI) classes [] [] [.long n, .long lo, .long hi]) (vp_Si (fun r => (r = 1 ∧ (L ≤ N ∧ N ≤ M)) ∨ (r = 0 ∧ ¬ (L ≤ N ∧ N ≤ M)))) 0 0 (fun _ => False) := by
  refine Met.ofW (cc := cX12_in) (maxL := 6) (ret := (some .boolean)) (by decide) rfl ?_
  intro p e s m args below meth c s₁ B hml hv
  obtain ⟨rfl, hP, hK⟩ := hv
  have hx := B.exec
  have hb := B.bytes
  have hr := B.returns
  have ht := tb_tl (atoms_spec (ws := wc yX12_in cX12_in 6 (some .boolean)) B.pre)
  have hown : s.vm.findClass RX12 = some m.cls := findClass_of_methodNamed B.named
  have hlocks := B.notSynchronized
  have hl := lv_entry [.long n, .long lo, .long hi] (n := 6) (Nat.le_of_ble_eq_true rfl)
  rw [lg_entry_eq]
  generalize (lg_sl [.long n, .long lo, .long hi] ++ List.replicate (6 - (lg_sl [.long n, .long lo, .long hi]).length) Slot.unset).toArray = ls at hl ⊢
  have hl : lv_has ls 6 [(0, .long n), (2, .long lo), (4, .long hi)] := hl
  refine lv_lload_n hx hb dX12_in_0 rfl (lv_at hl 0 rfl) ?_
  refine lv_lload_n hx hb dX12_in_1 rfl (lv_at hl 1 rfl) ?_
  refine W.lcmp hx hb dX12_in_2 ?_
  refine lv_topi (fun v1 ev1 => ?_)
  refine lv_if_lt (tgt := 17) hx hb dX12_in_3 (by decide) (fun c2 => ?_) (fun c2 => ?_)
  · have fc2 := zc_lt ev1 hn hlo c2
    refine lv_iconst (v := 0) hx hb dX12_in_17 (by decide) ?_
    exact W.zret (v := 0) hx hb hr rfl (fun t ht9 hW => ⟨0, rfl, Or.inr ⟨rfl, by omega⟩, ht9⟩) (fun q hq => by cases hq) dX12_in_18
  · have fc2 := zc_nlt ev1 hn hlo c2
    refine lv_lload_n hx hb dX12_in_6 rfl (lv_at hl 0 rfl) ?_
    refine lv_lload hx hb dX12_in_7 (lv_at hl 2 rfl) ?_
    refine W.lcmp hx hb dX12_in_9 ?_
    refine lv_topi (fun v3 ev3 => ?_)
    refine lv_if_gt (tgt := 17) hx hb dX12_in_10 (by decide) (fun c4 => ?_) (fun c4 => ?_)
    · have fc4 := zc_gt ev3 hn hhi c4
      refine lv_iconst (v := 0) hx hb dX12_in_17 (by decide) ?_
      exact W.zret (v := 0) hx hb hr rfl (fun t ht9 hW => ⟨0, rfl, Or.inr ⟨rfl, by omega⟩, ht9⟩) (fun q hq => by cases hq) dX12_in_18
    · have fc4 := zc_ngt ev3 hn hhi c4
      refine lv_iconst (v := 1) hx hb dX12_in_13 (by decide) ?_
      refine lv_goto (tgt := 18) hx hb dX12_in_14 (by decide) ?_
      exact W.zret (v := 1) hx hb hr rfl (fun t ht9 hW => ⟨1, rfl, Or.inl ⟨rfl, by omega⟩, ht9⟩) (fun q hq => by cases hq) dX12_in_18
set_option maxHeartbeats 4000000 in
set_option maxRecDepth 100000 in
/-- X0_has -/
theorem c_X0_has (l : Launch) (dC : Nat → ClassId) (dI : Nat → Nat → Nat) (h : Nat) (g : Nat → Nat → Nat) (ca : Nat → Nat → ClassId) (b : Int32) : Met l yX0_has (wc yX0_has cX0_has 2 (some .boolean)) ({ frames := 0, cells := 0, slots := 0, locals := 0 } : Room) (pR (dC, dI) classes [((g 11 2), .inr (0, (o0 h g)))] [] [.ref (g 11 2), .int b]) (vp_Si (fun r => r = 0)) 0 0 (fun _ => False) := by
  refine Met.ofW (cc := cX0_has) (maxL := 2) (ret := (some .boolean)) (by decide) rfl ?_
  intro p e s m args below meth c s₁ B hml hv
  obtain ⟨rfl, hP, hK⟩ := hv
  have hx := B.exec
  have hb := B.bytes
  have hr := B.returns
  have ht := tb_tl (atoms_spec (ws := wc yX0_has cX0_has 2 (some .boolean)) B.pre)
  have hown : s.vm.findClass RX0 = some m.cls := findClass_of_methodNamed B.named
  have hlocks := B.notSynchronized
  have hl := lv_entry [.ref (g 11 2), .int b] (n := 2) (Nat.le_of_ble_eq_true rfl)
  rw [lg_entry_eq]
  generalize (lg_sl [.ref (g 11 2), .int b] ++ List.replicate (2 - (lg_sl [.ref (g 11 2), .int b]).length) Slot.unset).toArray = ls at hl ⊢
  have hl : lv_has ls 2 [(0, .ref (g 11 2)), (1, .int b)] := hl
  refine lv_iload_n hx hb dX0_has_0 rfl (lv_at hl 1 rfl) ?_
  refine lv_if_lt (tgt := 16) hx hb dX0_has_1 (by decide) (fun c1 => ?_) (fun c1 => ?_)
  · have fc1 := z_lt (rfl : (b).toInt = _) (by decide : (0 : Int32).toInt = 0) c1
    refine lv_iconst (v := 0) hx hb dX0_has_16 (by decide) ?_
    exact W.zret (v := 0) hx hb hr rfl (fun t ht9 hW => ⟨0, rfl, rfl, ht9⟩) (fun q hq => by cases hq) dX0_has_17
  · have fc1 := z_nlt (rfl : (b).toInt = _) (by decide : (0 : Int32).toInt = 0) c1
    refine lv_iload_n hx hb dX0_has_4 rfl (lv_at hl 1 rfl) ?_
    refine lv_aload_n hx hb dX0_has_5 rfl (lv_at hl 0 rfl) ?_
    refine va_get (D := (dC, dI)) (ci := 0) (v := .int 0) (C := RX0) (T := TX0) (N := 8) hx hb ht inX0 hown hK hP 0 rfl rfl 7 (by decide) (ht _ m_164) (fun _ h9 => h9) rfl dX0_has_6 ?_
    refine lv_icmp_ge (tgt := 16) hx hb dX0_has_9 (by decide) (fun c2 => ?_) (fun c2 => ?_)
    · skip
      refine lv_iconst (v := 0) hx hb dX0_has_16 (by decide) ?_
      exact W.zret (v := 0) hx hb hr rfl (fun t ht9 hW => ⟨0, rfl, rfl, ht9⟩) (fun q hq => by cases hq) dX0_has_17
    · have fc2 := z_nle (by decide : (0 : Int32).toInt = 0) (rfl : (b).toInt = _) c2; exfalso; omega
set_option maxHeartbeats 4000000 in
set_option maxRecDepth 100000 in
/-- X10_has -/
theorem c_X10_has (l : Launch) (dC : Nat → ClassId) (dI : Nat → Nat → Nat) (h : Nat) (g : Nat → Nat → Nat) (ca : Nat → Nat → ClassId) (b : Int32) : Met l yX10_has (wc yX10_has cX10_has 2 (some .boolean)) ({ frames := 0, cells := 0, slots := 0, locals := 0 } : Room) (pR (dC, dI) classes [((g 11 0), .inr (10, (o10 h g)))] [] [.ref (g 11 0), .int b]) (vp_Si (fun r => r = 0)) 0 0 (fun _ => False) := by
  refine Met.ofW (cc := cX10_has) (maxL := 2) (ret := (some .boolean)) (by decide) rfl ?_
  intro p e s m args below meth c s₁ B hml hv
  obtain ⟨rfl, hP, hK⟩ := hv
  have hx := B.exec
  have hb := B.bytes
  have hr := B.returns
  have ht := tb_tl (atoms_spec (ws := wc yX10_has cX10_has 2 (some .boolean)) B.pre)
  have hown : s.vm.findClass RX10 = some m.cls := findClass_of_methodNamed B.named
  have hlocks := B.notSynchronized
  have hl := lv_entry [.ref (g 11 0), .int b] (n := 2) (Nat.le_of_ble_eq_true rfl)
  rw [lg_entry_eq]
  generalize (lg_sl [.ref (g 11 0), .int b] ++ List.replicate (2 - (lg_sl [.ref (g 11 0), .int b]).length) Slot.unset).toArray = ls at hl ⊢
  have hl : lv_has ls 2 [(0, .ref (g 11 0)), (1, .int b)] := hl
  refine lv_iload_n hx hb dX10_has_0 rfl (lv_at hl 1 rfl) ?_
  refine lv_if_lt (tgt := 16) hx hb dX10_has_1 (by decide) (fun c1 => ?_) (fun c1 => ?_)
  · have fc1 := z_lt (rfl : (b).toInt = _) (by decide : (0 : Int32).toInt = 0) c1
    refine lv_iconst (v := 0) hx hb dX10_has_16 (by decide) ?_
    exact W.zret (v := 0) hx hb hr rfl (fun t ht9 hW => ⟨0, rfl, rfl, ht9⟩) (fun q hq => by cases hq) dX10_has_17
  · have fc1 := z_nlt (rfl : (b).toInt = _) (by decide : (0 : Int32).toInt = 0) c1
    refine lv_iload_n hx hb dX10_has_4 rfl (lv_at hl 1 rfl) ?_
    refine lv_aload_n hx hb dX10_has_5 rfl (lv_at hl 0 rfl) ?_
    refine va_get (D := (dC, dI)) (ci := 10) (v := .int 0) (C := RX10) (T := TX10) (N := 3) hx hb ht inX10 hown hK hP 0 rfl rfl 1 (by decide) (ht _ m_112) (fun _ h9 => h9) rfl dX10_has_6 ?_
    refine lv_icmp_ge (tgt := 16) hx hb dX10_has_9 (by decide) (fun c2 => ?_) (fun c2 => ?_)
    · skip
      refine lv_iconst (v := 0) hx hb dX10_has_16 (by decide) ?_
      exact W.zret (v := 0) hx hb hr rfl (fun t ht9 hW => ⟨0, rfl, rfl, ht9⟩) (fun q hq => by cases hq) dX10_has_17
    · have fc2 := z_nle (by decide : (0 : Int32).toInt = 0) (rfl : (b).toInt = _) c2; exfalso; omega
set_option maxHeartbeats 4000000 in
set_option maxRecDepth 100000 in
/-- X6_has -/
theorem c_X6_has (l : Launch) (dC : Nat → ClassId) (dI : Nat → Nat → Nat) (h : Nat) (g : Nat → Nat → Nat) (ca : Nat → Nat → ClassId) (b : Int32) : Met l yX6_has (wc yX6_has cX6_has 2 (some .boolean)) ({ frames := 0, cells := 0, slots := 0, locals := 0 } : Room) (pR (dC, dI) classes [((g 11 9), .inr (6, (o6 h g)))] [] [.ref (g 11 9), .int b]) (vp_Si (fun r => r = 0)) 0 0 (fun _ => False) := by
  refine Met.ofW (cc := cX6_has) (maxL := 2) (ret := (some .boolean)) (by decide) rfl ?_
  intro p e s m args below meth c s₁ B hml hv
  obtain ⟨rfl, hP, hK⟩ := hv
  have hx := B.exec
  have hb := B.bytes
  have hr := B.returns
  have ht := tb_tl (atoms_spec (ws := wc yX6_has cX6_has 2 (some .boolean)) B.pre)
  have hown : s.vm.findClass RX6 = some m.cls := findClass_of_methodNamed B.named
  have hlocks := B.notSynchronized
  have hl := lv_entry [.ref (g 11 9), .int b] (n := 2) (Nat.le_of_ble_eq_true rfl)
  rw [lg_entry_eq]
  generalize (lg_sl [.ref (g 11 9), .int b] ++ List.replicate (2 - (lg_sl [.ref (g 11 9), .int b]).length) Slot.unset).toArray = ls at hl ⊢
  have hl : lv_has ls 2 [(0, .ref (g 11 9)), (1, .int b)] := hl
  refine lv_iload_n hx hb dX6_has_0 rfl (lv_at hl 1 rfl) ?_
  refine lv_if_lt (tgt := 16) hx hb dX6_has_1 (by decide) (fun c1 => ?_) (fun c1 => ?_)
  · have fc1 := z_lt (rfl : (b).toInt = _) (by decide : (0 : Int32).toInt = 0) c1
    refine lv_iconst (v := 0) hx hb dX6_has_16 (by decide) ?_
    exact W.zret (v := 0) hx hb hr rfl (fun t ht9 hW => ⟨0, rfl, rfl, ht9⟩) (fun q hq => by cases hq) dX6_has_17
  · have fc1 := z_nlt (rfl : (b).toInt = _) (by decide : (0 : Int32).toInt = 0) c1
    refine lv_iload_n hx hb dX6_has_4 rfl (lv_at hl 1 rfl) ?_
    refine lv_aload_n hx hb dX6_has_5 rfl (lv_at hl 0 rfl) ?_
    refine va_get (D := (dC, dI)) (ci := 6) (v := .int 0) (C := RX6) (T := TX6) (N := 8) hx hb ht inX6 hown hK hP 0 rfl rfl 7 (by decide) (ht _ m_396) (fun _ h9 => h9) rfl dX6_has_6 ?_
    refine lv_icmp_ge (tgt := 16) hx hb dX6_has_9 (by decide) (fun c2 => ?_) (fun c2 => ?_)
    · skip
      refine lv_iconst (v := 0) hx hb dX6_has_16 (by decide) ?_
      exact W.zret (v := 0) hx hb hr rfl (fun t ht9 hW => ⟨0, rfl, rfl, ht9⟩) (fun q hq => by cases hq) dX6_has_17
    · have fc2 := z_nle (by decide : (0 : Int32).toInt = 0) (rfl : (b).toInt = _) c2; exfalso; omega
set_option maxHeartbeats 4000000 in
set_option maxRecDepth 100000 in
/-- X1_has -/
theorem c_X1_has (l : Launch) (dC : Nat → ClassId) (dI : Nat → Nat → Nat) (h : Nat) (g : Nat → Nat → Nat) (ca : Nat → Nat → ClassId) (b : Int32) : Met l yX1_has (wc yX1_has cX1_has 2 (some .boolean)) ({ frames := 0, cells := 0, slots := 0, locals := 0 } : Room) (pR (dC, dI) classes [((g 11 3), .inr (1, (o1 h g)))] [] [.ref (g 11 3), .int b]) (vp_Si (fun r => r = 0)) 0 0 (fun _ => False) := by
  refine Met.ofW (cc := cX1_has) (maxL := 2) (ret := (some .boolean)) (by decide) rfl ?_
  intro p e s m args below meth c s₁ B hml hv
  obtain ⟨rfl, hP, hK⟩ := hv
  have hx := B.exec
  have hb := B.bytes
  have hr := B.returns
  have ht := tb_tl (atoms_spec (ws := wc yX1_has cX1_has 2 (some .boolean)) B.pre)
  have hown : s.vm.findClass RX1 = some m.cls := findClass_of_methodNamed B.named
  have hlocks := B.notSynchronized
  have hl := lv_entry [.ref (g 11 3), .int b] (n := 2) (Nat.le_of_ble_eq_true rfl)
  rw [lg_entry_eq]
  generalize (lg_sl [.ref (g 11 3), .int b] ++ List.replicate (2 - (lg_sl [.ref (g 11 3), .int b]).length) Slot.unset).toArray = ls at hl ⊢
  have hl : lv_has ls 2 [(0, .ref (g 11 3)), (1, .int b)] := hl
  refine lv_iload_n hx hb dX1_has_0 rfl (lv_at hl 1 rfl) ?_
  refine lv_if_lt (tgt := 35) hx hb dX1_has_1 (by decide) (fun c1 => ?_) (fun c1 => ?_)
  · have fc1 := z_lt (rfl : (b).toInt = _) (by decide : (0 : Int32).toInt = 0) c1
    refine lv_iconst (v := 0) hx hb dX1_has_35 (by decide) ?_
    exact W.zret (v := 0) hx hb hr rfl (fun t ht9 hW => ⟨0, rfl, rfl, ht9⟩) (fun q hq => by cases hq) dX1_has_36
  · have fc1 := z_nlt (rfl : (b).toInt = _) (by decide : (0 : Int32).toInt = 0) c1
    refine lv_iload_n hx hb dX1_has_4 rfl (lv_at hl 1 rfl) ?_
    refine lv_bipush (v := 100) hx hb dX1_has_5 (by decide) ?_
    refine lv_idiv hx hb dX1_has_7 (by decide) ?_
    refine lv_topi (fun v2 ev2 => ?_)
    have tv2 := z_div100 ev2 (by omega)
    refine lv_aload_n hx hb dX1_has_8 rfl (lv_at hl 0 rfl) ?_
    refine va_get (D := (dC, dI)) (ci := 1) (v := .int 0) (C := RX1) (T := TX1) (N := 9) hx hb ht inX1 hown hK hP 0 rfl rfl 7 (by decide) (ht _ m_196) (fun _ h9 => h9) rfl dX1_has_9 ?_
    refine lv_icmp_ge (tgt := 35) hx hb dX1_has_12 (by decide) (fun c3 => ?_) (fun c3 => ?_)
    · skip
      refine lv_iconst (v := 0) hx hb dX1_has_35 (by decide) ?_
      exact W.zret (v := 0) hx hb hr rfl (fun t ht9 hW => ⟨0, rfl, rfl, ht9⟩) (fun q hq => by cases hq) dX1_has_36
    · have fc3 := z_nle (by decide : (0 : Int32).toInt = 0) (rfl : (v2).toInt = _) c3; exfalso; omega
set_option maxHeartbeats 4000000 in
set_option maxRecDepth 100000 in
/-- X9_lastBy -/
theorem c_X9_lastBy (l : Launch) (dC : Nat → ClassId) (dI : Nat → Nat → Nat) (h : Nat) (g : Nat → Nat → Nat) (ca : Nat → Nat → ClassId) (a : Int32) (b : Int32) : Met l yX9_lastBy (wc yX9_lastBy cX9_lastBy 5 (some .int)) ({ frames := 0, cells := 0, slots := 0, locals := 0 } : Room) (pR (dC, dI) classes [((g 11 1), .inr (9, (o9 h g)))] [] [.ref (g 11 1), .int a, .int b]) (vp_Si (fun r => r = -1)) 0 0 (fun _ => False) := by
  refine Met.ofW (cc := cX9_lastBy) (maxL := 5) (ret := (some .int)) (by decide) rfl ?_
  intro p e s m args below meth c s₁ B hml hv
  obtain ⟨rfl, hP, hK⟩ := hv
  have hx := B.exec
  have hb := B.bytes
  have hr := B.returns
  have ht := tb_tl (atoms_spec (ws := wc yX9_lastBy cX9_lastBy 5 (some .int)) B.pre)
  have hown : s.vm.findClass RX9 = some m.cls := findClass_of_methodNamed B.named
  have hlocks := B.notSynchronized
  have hl := lv_entry [.ref (g 11 1), .int a, .int b] (n := 5) (Nat.le_of_ble_eq_true rfl)
  rw [lg_entry_eq]
  generalize (lg_sl [.ref (g 11 1), .int a, .int b] ++ List.replicate (5 - (lg_sl [.ref (g 11 1), .int a, .int b]).length) Slot.unset).toArray = ls at hl ⊢
  have hl : lv_has ls 5 [(0, .ref (g 11 1)), (1, .int a), (2, .int b)] := hl
  refine lv_iconst (v := (-1)) hx hb dX9_lastBy_0 (by decide) ?_
  refine lv_istore_n (lv' := [(3, .int (-1)), (0, .ref (g 11 1)), (1, .int a), (2, .int b)]) hx hb dX9_lastBy_1 rfl hl (by decide) rfl (fun ls hl => ?_)
  refine lv_iconst (v := 0) hx hb dX9_lastBy_2 (by decide) ?_
  refine lv_istore (lv' := [(4, .int 0), (3, .int (-1)), (0, .ref (g 11 1)), (1, .int a), (2, .int b)]) hx hb dX9_lastBy_3 hl (by decide) rfl (fun ls hl => ?_)
  refine lv_iload hx hb dX9_lastBy_5 (lv_at hl 0 rfl) ?_
  refine lv_aload_n hx hb dX9_lastBy_7 rfl (lv_at hl 2 rfl) ?_
  refine va_get (D := (dC, dI)) (ci := 9) (v := .int 0) (C := RX9) (T := TX9) (N := 4) hx hb ht inX9 hown hK hP 0 rfl rfl 3 (by decide) (ht _ m_135) (fun _ h9 => h9) rfl dX9_lastBy_8 ?_
  refine lv_icmp_ge (tgt := 45) hx hb dX9_lastBy_11 (by decide) (fun c1 => ?_) (fun c1 => ?_)
  · skip
    refine lv_iload_n hx hb dX9_lastBy_45 rfl (lv_at hl 1 rfl) ?_
    exact W.iret (v := (-1)) hx hb hr (fun t ht9 hW => ⟨(-1), rfl, rfl, ht9⟩) (fun q hq => by cases hq) dX9_lastBy_46
  · exact absurd c1 (by decide)
set_option maxHeartbeats 4000000 in
set_option maxRecDepth 100000 in
/-- X9_firstAfter -/
theorem c_X9_firstAfter (l : Launch) (dC : Nat → ClassId) (dI : Nat → Nat → Nat) (h : Nat) (g : Nat → Nat → Nat) (ca : Nat → Nat → ClassId) (a : Int32) (b : Int32) : Met l yX9_firstAfter (wc yX9_firstAfter cX9_firstAfter 4 (some .int)) ({ frames := 0, cells := 0, slots := 0, locals := 0 } : Room) (pR (dC, dI) classes [((g 11 1), .inr (9, (o9 h g)))] [] [.ref (g 11 1), .int a, .int b]) (vp_Si (fun r => r = -1)) 0 0 (fun _ => False) := by
  refine Met.ofW (cc := cX9_firstAfter) (maxL := 4) (ret := (some .int)) (by decide) rfl ?_
  intro p e s m args below meth c s₁ B hml hv
  obtain ⟨rfl, hP, hK⟩ := hv
  have hx := B.exec
  have hb := B.bytes
  have hr := B.returns
  have ht := tb_tl (atoms_spec (ws := wc yX9_firstAfter cX9_firstAfter 4 (some .int)) B.pre)
  have hown : s.vm.findClass RX9 = some m.cls := findClass_of_methodNamed B.named
  have hlocks := B.notSynchronized
  have hl := lv_entry [.ref (g 11 1), .int a, .int b] (n := 4) (Nat.le_of_ble_eq_true rfl)
  rw [lg_entry_eq]
  generalize (lg_sl [.ref (g 11 1), .int a, .int b] ++ List.replicate (4 - (lg_sl [.ref (g 11 1), .int a, .int b]).length) Slot.unset).toArray = ls at hl ⊢
  have hl : lv_has ls 4 [(0, .ref (g 11 1)), (1, .int a), (2, .int b)] := hl
  refine lv_iconst (v := 0) hx hb dX9_firstAfter_0 (by decide) ?_
  refine lv_istore_n (lv' := [(3, .int 0), (0, .ref (g 11 1)), (1, .int a), (2, .int b)]) hx hb dX9_firstAfter_1 rfl hl (by decide) rfl (fun ls hl => ?_)
  refine lv_iload_n hx hb dX9_firstAfter_2 rfl (lv_at hl 0 rfl) ?_
  refine lv_aload_n hx hb dX9_firstAfter_3 rfl (lv_at hl 1 rfl) ?_
  refine va_get (D := (dC, dI)) (ci := 9) (v := .int 0) (C := RX9) (T := TX9) (N := 4) hx hb ht inX9 hown hK hP 0 rfl rfl 3 (by decide) (ht _ m_135) (fun _ h9 => h9) rfl dX9_firstAfter_4 ?_
  refine lv_icmp_ge (tgt := 38) hx hb dX9_firstAfter_7 (by decide) (fun c1 => ?_) (fun c1 => ?_)
  · skip
    refine lv_iconst (v := (-1)) hx hb dX9_firstAfter_38 (by decide) ?_
    exact W.iret (v := (-1)) hx hb hr (fun t ht9 hW => ⟨(-1), rfl, rfl, ht9⟩) (fun q hq => by cases hq) dX9_firstAfter_39
  · exact absurd c1 (by decide)
set_option maxHeartbeats 4000000 in
set_option maxRecDepth 100000 in
/-- X9_driftOf -/
theorem c_X9_driftOf (l : Launch) (dC : Nat → ClassId) (dI : Nat → Nat → Nat) (h : Nat) (g : Nat → Nat → Nat) (ca : Nat → Nat → ClassId) : Met l yX9_driftOf (wc yX9_driftOf cX9_driftOf 3 (some .int)) ({ frames := 0, cells := 0, slots := 0, locals := 0 } : Room) (pR (dC, dI) classes [((g 11 1), .inr (9, (o9 h g)))] [] [.ref (g 11 1), .int (-1), .int (-1)]) (vp_Si (fun r => r = 0)) 0 0 (fun _ => False) := by
  refine Met.ofW (cc := cX9_driftOf) (maxL := 3) (ret := (some .int)) (by decide) rfl ?_
  intro p e s m args below meth c s₁ B hml hv
  obtain ⟨rfl, hP, hK⟩ := hv
  have hx := B.exec
  have hb := B.bytes
  have hr := B.returns
  have ht := tb_tl (atoms_spec (ws := wc yX9_driftOf cX9_driftOf 3 (some .int)) B.pre)
  have hown : s.vm.findClass RX9 = some m.cls := findClass_of_methodNamed B.named
  have hlocks := B.notSynchronized
  have hl := lv_entry [.ref (g 11 1), .int (-1), .int (-1)] (n := 3) (Nat.le_of_ble_eq_true rfl)
  rw [lg_entry_eq]
  generalize (lg_sl [.ref (g 11 1), .int (-1), .int (-1)] ++ List.replicate (3 - (lg_sl [.ref (g 11 1), .int (-1), .int (-1)]).length) Slot.unset).toArray = ls at hl ⊢
  have hl : lv_has ls 3 [(0, .ref (g 11 1)), (1, .int (-1)), (2, .int (-1))] := hl
  refine lv_iload_n hx hb dX9_driftOf_0 rfl (lv_at hl 1 rfl) ?_
  refine lv_iconst (v := (-1)) hx hb dX9_driftOf_1 (by decide) ?_
  refine lv_icmp_eq (tgt := 12) hx hb dX9_driftOf_2 (by decide) (fun c1 => ?_) (fun c1 => ?_)
  · skip
    refine lv_iload_n hx hb dX9_driftOf_12 rfl (lv_at hl 2 rfl) ?_
    refine lv_iconst (v := (-1)) hx hb dX9_driftOf_13 (by decide) ?_
    refine lv_icmp_ne (tgt := 21) hx hb dX9_driftOf_14 (by decide) (fun c2 => ?_) (fun c2 => ?_)
    · exact absurd rfl c2
    · skip
      refine lv_iconst (v := 0) hx hb dX9_driftOf_17 (by decide) ?_
      refine lv_goto (tgt := 27) hx hb dX9_driftOf_18 (by decide) ?_
      exact W.iret (v := 0) hx hb hr (fun t ht9 hW => ⟨0, rfl, rfl, ht9⟩) (fun q hq => by cases hq) dX9_driftOf_27
  · exact absurd rfl c1
set_option maxHeartbeats 4000000 in
set_option maxRecDepth 100000 in
/-- X9_least -/
theorem c_X9_least (l : Launch) (dC : Nat → ClassId) (dI : Nat → Nat → Nat) (h : Nat) (g : Nat → Nat → Nat) (ca : Nat → Nat → ClassId) (a : Int32) (b : Int32) : Met l yX9_least (wc yX9_least cX9_least 5 (some .int)) ({ frames := 1, cells := 0, slots := 0, locals := 40 } : Room) (pR (dC, dI) classes [((g 11 1), .inr (9, (o9 h g)))] [] [.ref (g 11 1), .int a, .int b]) (vp_Si (fun r => r = 0)) 0 0 (fun _ => False) := by
  refine Met.ofW (cc := cX9_least) (maxL := 5) (ret := (some .int)) (by decide) rfl ?_
  intro p e s m args below meth c s₁ B hml hv
  obtain ⟨rfl, hP, hK⟩ := hv
  have hx := B.exec
  have hb := B.bytes
  have hr := B.returns
  have ht := tb_tl (atoms_spec (ws := wc yX9_least cX9_least 5 (some .int)) B.pre)
  have hown : s.vm.findClass RX9 = some m.cls := findClass_of_methodNamed B.named
  have hlocks := B.notSynchronized
  have hl := lv_entry [.ref (g 11 1), .int a, .int b] (n := 5) (Nat.le_of_ble_eq_true rfl)
  rw [lg_entry_eq]
  generalize (lg_sl [.ref (g 11 1), .int a, .int b] ++ List.replicate (5 - (lg_sl [.ref (g 11 1), .int a, .int b]).length) Slot.unset).toArray = ls at hl ⊢
  have hl : lv_has ls 5 [(0, .ref (g 11 1)), (1, .int a), (2, .int b)] := hl
  refine lv_aload_n hx hb dX9_least_0 rfl (lv_at hl 0 rfl) ?_
  refine lv_iload_n hx hb dX9_least_1 rfl (lv_at hl 1 rfl) ?_
  refine lv_iload_n hx hb dX9_least_2 rfl (lv_at hl 2 rfl) ?_
  have hPc := hP.sub (ws' := [((g 11 1), .inr (9, (o9 h g)))]) [0] rfl
  have hKc := hK.sub (tys' := []) [] rfl
  refine vp_callSi (W.runV (As := [.int a, .int b]) (rest := []) ⟨hx, hb, hml, hown, ht⟩ (c_X9_lastBy l dC dI h g ca a b) (kV 2 ht m_538 m_540 m_1 m_79 m_541 rfl rfl hd_X9_lastBy_v ⟨Nat.le_of_ble_eq_true rfl, Nat.le_of_ble_eq_true rfl⟩) (vR hPc hKc (va_recv hKc hPc (ci := 9) (q0 := 0) rfl rfl)) rfl rfl hl.1 rfl (lv_room (Nat.le_of_ble_eq_true rfl)) dX9_least_3 ⟨Nat.le_of_ble_eq_true rfl, Nat.le_of_ble_eq_true rfl⟩) (fun r1 hr1 => ?_)
  obtain rfl : (-1) = r1 := hr1.symm
  refine lv_istore_n (lv' := [(3, .int (-1)), (0, .ref (g 11 1)), (1, .int a), (2, .int b)]) hx hb dX9_least_6 rfl hl (by decide) rfl (fun ls hl => ?_)
  refine lv_aload_n hx hb dX9_least_7 rfl (lv_at hl 1 rfl) ?_
  refine lv_iload_n hx hb dX9_least_8 rfl (lv_at hl 2 rfl) ?_
  refine lv_iload_n hx hb dX9_least_9 rfl (lv_at hl 3 rfl) ?_
  have hPc := hP.sub (ws' := [((g 11 1), .inr (9, (o9 h g)))]) [0] rfl
  have hKc := hK.sub (tys' := []) [] rfl
  refine vp_callSi (W.runV (As := [.int a, .int b]) (rest := []) ⟨hx, hb, hml, hown, ht⟩ (c_X9_firstAfter l dC dI h g ca a b) (kV 2 ht m_542 m_544 m_2 m_79 m_545 rfl rfl hd_X9_firstAfter_v ⟨Nat.le_of_ble_eq_true rfl, Nat.le_of_ble_eq_true rfl⟩) (vR hPc hKc (va_recv hKc hPc (ci := 9) (q0 := 0) rfl rfl)) rfl rfl hl.1 rfl (lv_room (Nat.le_of_ble_eq_true rfl)) dX9_least_10 ⟨Nat.le_of_ble_eq_true rfl, Nat.le_of_ble_eq_true rfl⟩) (fun r2 hr2 => ?_)
  obtain rfl : (-1) = r2 := hr2.symm
  refine lv_istore (lv' := [(4, .int (-1)), (3, .int (-1)), (0, .ref (g 11 1)), (1, .int a), (2, .int b)]) hx hb dX9_least_13 hl (by decide) rfl (fun ls hl => ?_)
  refine lv_aload_n hx hb dX9_least_15 rfl (lv_at hl 2 rfl) ?_
  refine lv_iload_n hx hb dX9_least_16 rfl (lv_at hl 1 rfl) ?_
  refine lv_iload hx hb dX9_least_17 (lv_at hl 0 rfl) ?_
  have hPc := hP.sub (ws' := [((g 11 1), .inr (9, (o9 h g)))]) [0] rfl
  have hKc := hK.sub (tys' := []) [] rfl
  refine vp_callSi (W.runV (As := [.int (-1), .int (-1)]) (rest := []) ⟨hx, hb, hml, hown, ht⟩ (c_X9_driftOf l dC dI h g ca) (kV 2 ht m_546 m_548 m_3 m_79 m_549 rfl rfl hd_X9_driftOf_v ⟨Nat.le_of_ble_eq_true rfl, Nat.le_of_ble_eq_true rfl⟩) (vR hPc hKc (va_recv hKc hPc (ci := 9) (q0 := 0) rfl rfl)) rfl rfl hl.1 rfl (lv_room (Nat.le_of_ble_eq_true rfl)) dX9_least_19 ⟨Nat.le_of_ble_eq_true rfl, Nat.le_of_ble_eq_true rfl⟩) (fun r3 hr3 => ?_)
  obtain rfl : 0 = r3 := hr3.symm
  refine lv_aload_n hx hb dX9_least_22 rfl (lv_at hl 2 rfl) ?_
  refine lv_iload hx hb dX9_least_23 (lv_at hl 0 rfl) ?_
  refine lv_iload_n hx hb dX9_least_25 rfl (lv_at hl 1 rfl) ?_
  have hPc := hP.sub (ws' := [((g 11 1), .inr (9, (o9 h g)))]) [0] rfl
  have hKc := hK.sub (tys' := []) [] rfl
  refine vp_callSi (W.runV (As := [.int (-1), .int (-1)]) (rest := [.int 0]) ⟨hx, hb, hml, hown, ht⟩ (c_X9_driftOf l dC dI h g ca) (kV 2 ht m_546 m_548 m_3 m_79 m_549 rfl rfl hd_X9_driftOf_v ⟨Nat.le_of_ble_eq_true rfl, Nat.le_of_ble_eq_true rfl⟩) (vR hPc hKc (va_recv hKc hPc (ci := 9) (q0 := 0) rfl rfl)) rfl rfl hl.1 rfl (lv_room (Nat.le_of_ble_eq_true rfl)) dX9_least_26 ⟨Nat.le_of_ble_eq_true rfl, Nat.le_of_ble_eq_true rfl⟩) (fun r4 hr4 => ?_)
  obtain rfl : 0 = r4 := hr4.symm
  refine va_mmin hx hb (hml.trans hl.1.symm) hown (ht _ m_550) (ht _ m_551) (ht _ m_90) (ht _ m_552) (Nat.le_of_ble_eq_true rfl) (Nat.le_of_ble_eq_true rfl) (Nat.le_of_ble_eq_true rfl) (Nat.le_of_ble_eq_true rfl) dX9_least_29 ?_
  refine lv_topi (fun v5 ev5 => ?_)
  obtain rfl : 0 = v5 := (ev5.trans (by decide)).symm
  exact W.iret (v := 0) hx hb hr (fun t ht9 hW => ⟨0, rfl, rfl, ht9⟩) (fun q hq => by cases hq) dX9_least_32
set_option maxHeartbeats 4000000 in
set_option maxRecDepth 100000 in
/-- X9_greatest -/
theorem c_X9_greatest (l : Launch) (dC : Nat → ClassId) (dI : Nat → Nat → Nat) (h : Nat) (g : Nat → Nat → Nat) (ca : Nat → Nat → ClassId) (a : Int32) (b : Int32) : Met l yX9_greatest (wc yX9_greatest cX9_greatest 5 (some .int)) ({ frames := 1, cells := 0, slots := 0, locals := 40 } : Room) (pR (dC, dI) classes [((g 11 1), .inr (9, (o9 h g)))] [] [.ref (g 11 1), .int a, .int b]) (vp_Si (fun r => r = 0)) 0 0 (fun _ => False) := by
  refine Met.ofW (cc := cX9_greatest) (maxL := 5) (ret := (some .int)) (by decide) rfl ?_
  intro p e s m args below meth c s₁ B hml hv
  obtain ⟨rfl, hP, hK⟩ := hv
  have hx := B.exec
  have hb := B.bytes
  have hr := B.returns
  have ht := tb_tl (atoms_spec (ws := wc yX9_greatest cX9_greatest 5 (some .int)) B.pre)
  have hown : s.vm.findClass RX9 = some m.cls := findClass_of_methodNamed B.named
  have hlocks := B.notSynchronized
  have hl := lv_entry [.ref (g 11 1), .int a, .int b] (n := 5) (Nat.le_of_ble_eq_true rfl)
  rw [lg_entry_eq]
  generalize (lg_sl [.ref (g 11 1), .int a, .int b] ++ List.replicate (5 - (lg_sl [.ref (g 11 1), .int a, .int b]).length) Slot.unset).toArray = ls at hl ⊢
  have hl : lv_has ls 5 [(0, .ref (g 11 1)), (1, .int a), (2, .int b)] := hl
  refine lv_aload_n hx hb dX9_greatest_0 rfl (lv_at hl 0 rfl) ?_
  refine lv_iload_n hx hb dX9_greatest_1 rfl (lv_at hl 1 rfl) ?_
  refine lv_iload_n hx hb dX9_greatest_2 rfl (lv_at hl 2 rfl) ?_
  have hPc := hP.sub (ws' := [((g 11 1), .inr (9, (o9 h g)))]) [0] rfl
  have hKc := hK.sub (tys' := []) [] rfl
  refine vp_callSi (W.runV (As := [.int a, .int b]) (rest := []) ⟨hx, hb, hml, hown, ht⟩ (c_X9_lastBy l dC dI h g ca a b) (kV 2 ht m_538 m_540 m_1 m_79 m_541 rfl rfl hd_X9_lastBy_v ⟨Nat.le_of_ble_eq_true rfl, Nat.le_of_ble_eq_true rfl⟩) (vR hPc hKc (va_recv hKc hPc (ci := 9) (q0 := 0) rfl rfl)) rfl rfl hl.1 rfl (lv_room (Nat.le_of_ble_eq_true rfl)) dX9_greatest_3 ⟨Nat.le_of_ble_eq_true rfl, Nat.le_of_ble_eq_true rfl⟩) (fun r1 hr1 => ?_)
  obtain rfl : (-1) = r1 := hr1.symm
  refine lv_istore_n (lv' := [(3, .int (-1)), (0, .ref (g 11 1)), (1, .int a), (2, .int b)]) hx hb dX9_greatest_6 rfl hl (by decide) rfl (fun ls hl => ?_)
  refine lv_aload_n hx hb dX9_greatest_7 rfl (lv_at hl 1 rfl) ?_
  refine lv_iload_n hx hb dX9_greatest_8 rfl (lv_at hl 2 rfl) ?_
  refine lv_iload_n hx hb dX9_greatest_9 rfl (lv_at hl 3 rfl) ?_
  have hPc := hP.sub (ws' := [((g 11 1), .inr (9, (o9 h g)))]) [0] rfl
  have hKc := hK.sub (tys' := []) [] rfl
  refine vp_callSi (W.runV (As := [.int a, .int b]) (rest := []) ⟨hx, hb, hml, hown, ht⟩ (c_X9_firstAfter l dC dI h g ca a b) (kV 2 ht m_542 m_544 m_2 m_79 m_545 rfl rfl hd_X9_firstAfter_v ⟨Nat.le_of_ble_eq_true rfl, Nat.le_of_ble_eq_true rfl⟩) (vR hPc hKc (va_recv hKc hPc (ci := 9) (q0 := 0) rfl rfl)) rfl rfl hl.1 rfl (lv_room (Nat.le_of_ble_eq_true rfl)) dX9_greatest_10 ⟨Nat.le_of_ble_eq_true rfl, Nat.le_of_ble_eq_true rfl⟩) (fun r2 hr2 => ?_)
  obtain rfl : (-1) = r2 := hr2.symm
  refine lv_istore (lv' := [(4, .int (-1)), (3, .int (-1)), (0, .ref (g 11 1)), (1, .int a), (2, .int b)]) hx hb dX9_greatest_13 hl (by decide) rfl (fun ls hl => ?_)
  refine lv_aload_n hx hb dX9_greatest_15 rfl (lv_at hl 2 rfl) ?_
  refine lv_iload_n hx hb dX9_greatest_16 rfl (lv_at hl 1 rfl) ?_
  refine lv_iload hx hb dX9_greatest_17 (lv_at hl 0 rfl) ?_
  have hPc := hP.sub (ws' := [((g 11 1), .inr (9, (o9 h g)))]) [0] rfl
  have hKc := hK.sub (tys' := []) [] rfl
  refine vp_callSi (W.runV (As := [.int (-1), .int (-1)]) (rest := []) ⟨hx, hb, hml, hown, ht⟩ (c_X9_driftOf l dC dI h g ca) (kV 2 ht m_546 m_548 m_3 m_79 m_549 rfl rfl hd_X9_driftOf_v ⟨Nat.le_of_ble_eq_true rfl, Nat.le_of_ble_eq_true rfl⟩) (vR hPc hKc (va_recv hKc hPc (ci := 9) (q0 := 0) rfl rfl)) rfl rfl hl.1 rfl (lv_room (Nat.le_of_ble_eq_true rfl)) dX9_greatest_19 ⟨Nat.le_of_ble_eq_true rfl, Nat.le_of_ble_eq_true rfl⟩) (fun r3 hr3 => ?_)
  obtain rfl : 0 = r3 := hr3.symm
  refine lv_aload_n hx hb dX9_greatest_22 rfl (lv_at hl 2 rfl) ?_
  refine lv_iload hx hb dX9_greatest_23 (lv_at hl 0 rfl) ?_
  refine lv_iload_n hx hb dX9_greatest_25 rfl (lv_at hl 1 rfl) ?_
  have hPc := hP.sub (ws' := [((g 11 1), .inr (9, (o9 h g)))]) [0] rfl
  have hKc := hK.sub (tys' := []) [] rfl
  refine vp_callSi (W.runV (As := [.int (-1), .int (-1)]) (rest := [.int 0]) ⟨hx, hb, hml, hown, ht⟩ (c_X9_driftOf l dC dI h g ca) (kV 2 ht m_546 m_548 m_3 m_79 m_549 rfl rfl hd_X9_driftOf_v ⟨Nat.le_of_ble_eq_true rfl, Nat.le_of_ble_eq_true rfl⟩) (vR hPc hKc (va_recv hKc hPc (ci := 9) (q0 := 0) rfl rfl)) rfl rfl hl.1 rfl (lv_room (Nat.le_of_ble_eq_true rfl)) dX9_greatest_26 ⟨Nat.le_of_ble_eq_true rfl, Nat.le_of_ble_eq_true rfl⟩) (fun r4 hr4 => ?_)
  obtain rfl : 0 = r4 := hr4.symm
  refine va_mmax hx hb (hml.trans hl.1.symm) hown (ht _ m_557) (ht _ m_558) (ht _ m_90) (ht _ m_559) (Nat.le_of_ble_eq_true rfl) (Nat.le_of_ble_eq_true rfl) (Nat.le_of_ble_eq_true rfl) (Nat.le_of_ble_eq_true rfl) dX9_greatest_29 ?_
  refine lv_topi (fun v5 ev5 => ?_)
  obtain rfl : 0 = v5 := (ev5.trans (by decide)).symm
  exact W.iret (v := 0) hx hb hr (fun t ht9 hW => ⟨0, rfl, rfl, ht9⟩) (fun q hq => by cases hq) dX9_greatest_32
set_option maxHeartbeats 4000000 in
set_option maxRecDepth 100000 in
/-- X0_bring -/
theorem c_X0_bring (l : Launch) (dC : Nat → ClassId) (dI : Nat → Nat → Nat) (sz : Nat) (h : Nat) (g : Nat → Nat → Nat) (ca : Nat → Nat → ClassId) (a : Int32) : Met l yX0_bring (wc yX0_bring cX0_bring 2 (some .int)) ({ frames := 0, cells := 0, slots := 0, locals := 0 } : Room) (pW (dC, dI) classes [((g 11 2), .inr (0, (o0 h g))), ((g 0 0), .inl ((ca 0 0), 10, .inl (fun _ => 0)))] [((ca 0 0), .int)] sz [.ref (g 11 2), .int a]) (va_Qi (fun r (_ : Unit) => r = 0) (fun _ _ => True) (va_A [((g 11 2), .inr (0, (o0 h g))), ((g 0 0), .inl ((ca 0 0), 10, .inl (fun _ => 0)))] sz)) 0 0 (va_A [((g 11 2), .inr (0, (o0 h g))), ((g 0 0), .inl ((ca 0 0), 10, .inl (fun _ => 0)))] sz) := by
  refine Met.ofW (cc := cX0_bring) (maxL := 2) (ret := (some .int)) (by decide) rfl ?_
  intro p e s m args below meth c s₁ B hml hv
  obtain ⟨rfl, hsz, hP, hK, hD0⟩ := hv
  have hx := B.exec
  have hb := B.bytes
  have hr := B.returns
  have ht := tb_tl (atoms_spec (ws := wc yX0_bring cX0_bring 2 (some .int)) B.pre)
  have hown : s.vm.findClass RX0 = some m.cls := findClass_of_methodNamed B.named
  have hlocks := B.notSynchronized
  subst hsz
  have hD := hD0.self (sz := s.heap.size)
  generalize hAe : va_A [((g 11 2), .inr (0, (o0 h g))), ((g 0 0), .inl ((ca 0 0), 10, .inl (fun _ => 0)))] s.heap.size = A at hD ⊢
  have hA : ∀ q : Nat, s.heap.size ≤ q → A q := fun q h => by rw [← hAe]; exact Or.inr h
  have hS : va_S A s.heap s.heap [] := va_S.rf
  have hP : va_P (dC, dI) classes [((g 11 2), .inr (0, (o0 h g))), ((g 0 0), .inl ((ca 0 0), 10, .inl (fun _ => 0)))] s.heap := hP
  have hl := lv_entry [.ref (g 11 2), .int a] (n := 2) (Nat.le_of_ble_eq_true rfl)
  rw [lg_entry_eq]
  generalize (lg_sl [.ref (g 11 2), .int a] ++ List.replicate (2 - (lg_sl [.ref (g 11 2), .int a]).length) Slot.unset).toArray = ls at hl ⊢
  have hl : lv_has ls 2 [(0, .ref (g 11 2)), (1, .int a)] := hl
  refine lv_aload_n hx hb dX0_bring_0 rfl (lv_at hl 0 rfl) ?_
  refine va_get (D := (dC, dI)) (ci := 0) (v := .ref (g 0 0)) (C := RX0) (T := TX0) (N := 8) hx hb ht inX0 hown hK hP 0 rfl rfl 0 (by decide) (ht _ m_152) (fun _ h9 => h9) rfl dX0_bring_1 ?_
  refine lv_aload_n hx hb dX0_bring_4 rfl (lv_at hl 0 rfl) ?_
  refine va_get (D := (dC, dI)) (ci := 0) (v := .int 0) (C := RX0) (T := TX0) (N := 8) hx hb ht inX0 hown hK hP 0 rfl rfl 7 (by decide) (ht _ m_164) (fun _ h9 => h9) rfl dX0_bring_5 ?_
  refine lv_iload_n hx hb dX0_bring_8 rfl (lv_at hl 1 rfl) ?_
  refine va_iast (D := (dC, dI)) hx hb hK hP hD hS 1 0 rfl rfl (vp_in_iff.mpr (by decide)) dX0_bring_9 (fun H locs hP hD hS => ?_)
  obtain ⟨f1, hP, hD⟩ : ∃ f1 : Nat → Int32, va_P (dC, dI) classes [((g 11 2), .inr (0, (o0 h g))), ((g 0 0), .inl ((ca 0 0), 10, .inl f1))] H ∧ va_D A [((g 11 2), .inr (0, (o0 h g))), ((g 0 0), .inl ((ca 0 0), 10, .inl f1))] := ⟨_, hP, hD⟩
  refine lv_aload_n hx hb dX0_bring_10 rfl (lv_at hl 0 rfl) ?_
  refine lv_dup hx hb dX0_bring_11 rfl ?_
  refine va_get (D := (dC, dI)) (ci := 0) (v := .int 0) (C := RX0) (T := TX0) (N := 8) hx hb ht inX0 hown hK hP 0 rfl rfl 7 (by decide) (ht _ m_164) (fun _ h9 => h9) rfl dX0_bring_12 ?_
  refine lv_iconst (v := 1) hx hb dX0_bring_15 (by decide) ?_
  refine lv_iadd hx hb dX0_bring_16 ?_
  refine lv_topi (fun v2 ev2 => ?_)
  obtain rfl : 1 = v2 := (ev2.trans (by decide)).symm
  refine va_put (D := (dC, dI)) (ci := 0) (v := .int 1) (ty := (.int)) (C := RX0) (T := TX0) (N := 8) hx hb ht inX0 tyX0 tyX0_ok nmX0 hown hK hP hD hS 0 rfl rfl 7 (by decide) (ht _ m_164) (fun _ h9 => h9) rfl (by decide +kernel) rfl rfl (Nat.le_of_ble_eq_true rfl) dX0_bring_17 (fun H locs hP hD hS => ?_)
  have hP : va_P (dC, dI) classes [((g 11 2), .inr (0, ((o0 h g).set 7 (.int 1)))), ((g 0 0), .inl ((ca 0 0), 10, .inl f1))] H := hP
  have hD : va_D A [((g 11 2), .inr (0, ((o0 h g).set 7 (.int 1)))), ((g 0 0), .inl ((ca 0 0), 10, .inl f1))] := hD
  refine lv_aload_n hx hb dX0_bring_20 rfl (lv_at hl 0 rfl) ?_
  refine va_get (D := (dC, dI)) (ci := 0) (v := .int 1) (C := RX0) (T := TX0) (N := 8) hx hb ht inX0 hown hK hP 0 rfl rfl 7 (by decide) (ht _ m_164) (fun _ h9 => h9) rfl dX0_bring_21 ?_
  refine lv_iconst (v := 1) hx hb dX0_bring_24 (by decide) ?_
  refine lv_isub hx hb dX0_bring_25 ?_
  refine lv_topi (fun v3 ev3 => ?_)
  obtain rfl : 0 = v3 := (ev3.trans (by decide)).symm
  exact W.iret (v := 0) hx hb hr (fun t ht9 hW => ⟨⟨0, (), rfl, rfl, trivial⟩, hS.F ht9⟩) hS.2.2 dX0_bring_26
set_option maxHeartbeats 4000000 in
set_option maxRecDepth 100000 in
/-- X9_note -/
theorem c_X9_note (l : Launch) (dC : Nat → ClassId) (dI : Nat → Nat → Nat) (sz : Nat) (h : Nat) (g : Nat → Nat → Nat) (ca : Nat → Nat → ClassId) (a : Int32) (b : Int32) : Met l yX9_note (wc yX9_note cX9_note 4 (some .int)) ({ frames := 0, cells := 0, slots := 0, locals := 0 } : Room) (pW (dC, dI) classes [((g 11 1), .inr (9, (o9 h g))), ((g 9 0), .inl ((ca 9 0), 30, .inl (fun _ => 0))), ((g 9 1), .inl ((ca 9 1), 30, .inl (fun _ => 0))), ((g 9 2), .inl ((ca 9 2), 30, .inl (fun _ => 0)))] [((ca 9 0), .int), ((ca 9 1), .int), ((ca 9 2), .int)] sz [.ref (g 11 1), .int a, .int 0, .int b]) (va_Qi (fun r (_ : Unit) => r = 1) (fun _ _ => True) (va_A [((g 11 1), .inr (9, (o9 h g))), ((g 9 0), .inl ((ca 9 0), 30, .inl (fun _ => 0))), ((g 9 1), .inl ((ca 9 1), 30, .inl (fun _ => 0))), ((g 9 2), .inl ((ca 9 2), 30, .inl (fun _ => 0)))] sz)) 0 0 (va_A [((g 11 1), .inr (9, (o9 h g))), ((g 9 0), .inl ((ca 9 0), 30, .inl (fun _ => 0))), ((g 9 1), .inl ((ca 9 1), 30, .inl (fun _ => 0))), ((g 9 2), .inl ((ca 9 2), 30, .inl (fun _ => 0)))] sz) := by
  refine Met.ofW (cc := cX9_note) (maxL := 4) (ret := (some .int)) (by decide) rfl ?_
  intro p e s m args below meth c s₁ B hml hv
  obtain ⟨rfl, hsz, hP, hK, hD0⟩ := hv
  have hx := B.exec
  have hb := B.bytes
  have hr := B.returns
  have ht := tb_tl (atoms_spec (ws := wc yX9_note cX9_note 4 (some .int)) B.pre)
  have hown : s.vm.findClass RX9 = some m.cls := findClass_of_methodNamed B.named
  have hlocks := B.notSynchronized
  subst hsz
  have hD := hD0.self (sz := s.heap.size)
  generalize hAe : va_A [((g 11 1), .inr (9, (o9 h g))), ((g 9 0), .inl ((ca 9 0), 30, .inl (fun _ => 0))), ((g 9 1), .inl ((ca 9 1), 30, .inl (fun _ => 0))), ((g 9 2), .inl ((ca 9 2), 30, .inl (fun _ => 0)))] s.heap.size = A at hD ⊢
  have hA : ∀ q : Nat, s.heap.size ≤ q → A q := fun q h => by rw [← hAe]; exact Or.inr h
  have hS : va_S A s.heap s.heap [] := va_S.rf
  have hP : va_P (dC, dI) classes [((g 11 1), .inr (9, (o9 h g))), ((g 9 0), .inl ((ca 9 0), 30, .inl (fun _ => 0))), ((g 9 1), .inl ((ca 9 1), 30, .inl (fun _ => 0))), ((g 9 2), .inl ((ca 9 2), 30, .inl (fun _ => 0)))] s.heap := hP
  have hl := lv_entry [.ref (g 11 1), .int a, .int 0, .int b] (n := 4) (Nat.le_of_ble_eq_true rfl)
  rw [lg_entry_eq]
  generalize (lg_sl [.ref (g 11 1), .int a, .int 0, .int b] ++ List.replicate (4 - (lg_sl [.ref (g 11 1), .int a, .int 0, .int b]).length) Slot.unset).toArray = ls at hl ⊢
  have hl : lv_has ls 4 [(0, .ref (g 11 1)), (1, .int a), (2, .int 0), (3, .int b)] := hl
  refine lv_aload_n hx hb dX9_note_0 rfl (lv_at hl 0 rfl) ?_
  refine va_get (D := (dC, dI)) (ci := 9) (v := .ref (g 9 0)) (C := RX9) (T := TX9) (N := 4) hx hb ht inX9 hown hK hP 0 rfl rfl 0 (by decide) (ht _ m_132) (fun _ h9 => h9) rfl dX9_note_1 ?_
  refine lv_aload_n hx hb dX9_note_4 rfl (lv_at hl 0 rfl) ?_
  refine va_get (D := (dC, dI)) (ci := 9) (v := .int 0) (C := RX9) (T := TX9) (N := 4) hx hb ht inX9 hown hK hP 0 rfl rfl 3 (by decide) (ht _ m_135) (fun _ h9 => h9) rfl dX9_note_5 ?_
  refine lv_iload_n hx hb dX9_note_8 rfl (lv_at hl 1 rfl) ?_
  refine va_iast (D := (dC, dI)) hx hb hK hP hD hS 1 0 rfl rfl (vp_in_iff.mpr (by decide)) dX9_note_9 (fun H locs hP hD hS => ?_)
  obtain ⟨f1, hP, hD⟩ : ∃ f1 : Nat → Int32, va_P (dC, dI) classes [((g 11 1), .inr (9, (o9 h g))), ((g 9 0), .inl ((ca 9 0), 30, .inl f1)), ((g 9 1), .inl ((ca 9 1), 30, .inl (fun _ => 0))), ((g 9 2), .inl ((ca 9 2), 30, .inl (fun _ => 0)))] H ∧ va_D A [((g 11 1), .inr (9, (o9 h g))), ((g 9 0), .inl ((ca 9 0), 30, .inl f1)), ((g 9 1), .inl ((ca 9 1), 30, .inl (fun _ => 0))), ((g 9 2), .inl ((ca 9 2), 30, .inl (fun _ => 0)))] := ⟨_, hP, hD⟩
  refine lv_aload_n hx hb dX9_note_10 rfl (lv_at hl 0 rfl) ?_
  refine va_get (D := (dC, dI)) (ci := 9) (v := .ref (g 9 1)) (C := RX9) (T := TX9) (N := 4) hx hb ht inX9 hown hK hP 0 rfl rfl 1 (by decide) (ht _ m_133) (fun _ h9 => h9) rfl dX9_note_11 ?_
  refine lv_aload_n hx hb dX9_note_14 rfl (lv_at hl 0 rfl) ?_
  refine va_get (D := (dC, dI)) (ci := 9) (v := .int 0) (C := RX9) (T := TX9) (N := 4) hx hb ht inX9 hown hK hP 0 rfl rfl 3 (by decide) (ht _ m_135) (fun _ h9 => h9) rfl dX9_note_15 ?_
  refine lv_iload_n hx hb dX9_note_18 rfl (lv_at hl 2 rfl) ?_
  refine va_iast (D := (dC, dI)) hx hb hK hP hD hS 2 1 rfl rfl (vp_in_iff.mpr (by decide)) dX9_note_19 (fun H locs hP hD hS => ?_)
  obtain ⟨f2, hP, hD⟩ : ∃ f2 : Nat → Int32, va_P (dC, dI) classes [((g 11 1), .inr (9, (o9 h g))), ((g 9 0), .inl ((ca 9 0), 30, .inl f1)), ((g 9 1), .inl ((ca 9 1), 30, .inl f2)), ((g 9 2), .inl ((ca 9 2), 30, .inl (fun _ => 0)))] H ∧ va_D A [((g 11 1), .inr (9, (o9 h g))), ((g 9 0), .inl ((ca 9 0), 30, .inl f1)), ((g 9 1), .inl ((ca 9 1), 30, .inl f2)), ((g 9 2), .inl ((ca 9 2), 30, .inl (fun _ => 0)))] := ⟨_, hP, hD⟩
  refine lv_aload_n hx hb dX9_note_20 rfl (lv_at hl 0 rfl) ?_
  refine va_get (D := (dC, dI)) (ci := 9) (v := .ref (g 9 2)) (C := RX9) (T := TX9) (N := 4) hx hb ht inX9 hown hK hP 0 rfl rfl 2 (by decide) (ht _ m_134) (fun _ h9 => h9) rfl dX9_note_21 ?_
  refine lv_aload_n hx hb dX9_note_24 rfl (lv_at hl 0 rfl) ?_
  refine va_get (D := (dC, dI)) (ci := 9) (v := .int 0) (C := RX9) (T := TX9) (N := 4) hx hb ht inX9 hown hK hP 0 rfl rfl 3 (by decide) (ht _ m_135) (fun _ h9 => h9) rfl dX9_note_25 ?_
  refine lv_iload_n hx hb dX9_note_28 rfl (lv_at hl 3 rfl) ?_
  refine va_iast (D := (dC, dI)) hx hb hK hP hD hS 3 2 rfl rfl (vp_in_iff.mpr (by decide)) dX9_note_29 (fun H locs hP hD hS => ?_)
  obtain ⟨f3, hP, hD⟩ : ∃ f3 : Nat → Int32, va_P (dC, dI) classes [((g 11 1), .inr (9, (o9 h g))), ((g 9 0), .inl ((ca 9 0), 30, .inl f1)), ((g 9 1), .inl ((ca 9 1), 30, .inl f2)), ((g 9 2), .inl ((ca 9 2), 30, .inl f3))] H ∧ va_D A [((g 11 1), .inr (9, (o9 h g))), ((g 9 0), .inl ((ca 9 0), 30, .inl f1)), ((g 9 1), .inl ((ca 9 1), 30, .inl f2)), ((g 9 2), .inl ((ca 9 2), 30, .inl f3))] := ⟨_, hP, hD⟩
  refine lv_aload_n hx hb dX9_note_30 rfl (lv_at hl 0 rfl) ?_
  refine lv_dup hx hb dX9_note_31 rfl ?_
  refine va_get (D := (dC, dI)) (ci := 9) (v := .int 0) (C := RX9) (T := TX9) (N := 4) hx hb ht inX9 hown hK hP 0 rfl rfl 3 (by decide) (ht _ m_135) (fun _ h9 => h9) rfl dX9_note_32 ?_
  refine lv_iconst (v := 1) hx hb dX9_note_35 (by decide) ?_
  refine lv_iadd hx hb dX9_note_36 ?_
  refine lv_topi (fun v4 ev4 => ?_)
  obtain rfl : 1 = v4 := (ev4.trans (by decide)).symm
  refine va_put (D := (dC, dI)) (ci := 9) (v := .int 1) (ty := (.int)) (C := RX9) (T := TX9) (N := 4) hx hb ht inX9 tyX9 tyX9_ok nmX9 hown hK hP hD hS 0 rfl rfl 3 (by decide) (ht _ m_135) (fun _ h9 => h9) rfl (by decide +kernel) rfl rfl (Nat.le_of_ble_eq_true rfl) dX9_note_37 (fun H locs hP hD hS => ?_)
  have hP : va_P (dC, dI) classes [((g 11 1), .inr (9, ((o9 h g).set 3 (.int 1)))), ((g 9 0), .inl ((ca 9 0), 30, .inl f1)), ((g 9 1), .inl ((ca 9 1), 30, .inl f2)), ((g 9 2), .inl ((ca 9 2), 30, .inl f3))] H := hP
  have hD : va_D A [((g 11 1), .inr (9, ((o9 h g).set 3 (.int 1)))), ((g 9 0), .inl ((ca 9 0), 30, .inl f1)), ((g 9 1), .inl ((ca 9 1), 30, .inl f2)), ((g 9 2), .inl ((ca 9 2), 30, .inl f3))] := hD
  refine lv_aload_n hx hb dX9_note_40 rfl (lv_at hl 0 rfl) ?_
  refine va_get (D := (dC, dI)) (ci := 9) (v := .int 1) (C := RX9) (T := TX9) (N := 4) hx hb ht inX9 hown hK hP 0 rfl rfl 3 (by decide) (ht _ m_135) (fun _ h9 => h9) rfl dX9_note_41 ?_
  exact W.iret (v := 1) hx hb hr (fun t ht9 hW => ⟨⟨1, (), rfl, rfl, trivial⟩, hS.F ht9⟩) hS.2.2 dX9_note_44
