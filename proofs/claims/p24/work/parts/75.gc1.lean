/-! ===== gc1 ===== -/
set_option maxHeartbeats 4000000 in
set_option maxRecDepth 100000 in
/-- X11_greatestDivisor -/
theorem c_X11_greatestDivisor_g (l : Launch) (dC : Nat → ClassId) (dI : Nat → Nat → Nat) (a : Int64) (b : Int64) (p_0 : 0 ≤ a.toInt) (p_1 : 0 ≤ b.toInt) (p_2 : b.toInt ≤ 281474976710656) : Met l yX11_greatestDivisor (wc yX11_greatestDivisor cX11_greatestDivisor 7 (some .long)) ({ frames := 0, cells := 0, slots := 0, locals := 0 } : Room) (pR (dC, dI) classes [] [] [.long a, .long b]) (vp_Sl (fun r => (True) ∧ (r.toInt = gN a.toInt b.toInt))) 0 0 (fun _ => False) := by
  refine Met.ofW (cc := cX11_greatestDivisor) (maxL := 7) (ret := (some .long)) (by decide) rfl ?_
  intro p e s m args below meth c s₁ B hml hv
  obtain ⟨rfl, hP, hK⟩ := hv
  have hx := B.exec
  have hb := B.bytes
  have hr := B.returns
  have ht := tb_tl (atoms_spec (ws := wc yX11_greatestDivisor cX11_greatestDivisor 7 (some .long)) B.pre)
  have hown : s.vm.findClass RX11 = some m.cls := findClass_of_methodNamed B.named
  have hlocks := B.notSynchronized
  have hl := lv_entry [.long a, .long b] (n := 7) (Nat.le_of_ble_eq_true rfl)
  rw [lg_entry_eq]
  generalize (lg_sl [.long a, .long b] ++ List.replicate (7 - (lg_sl [.long a, .long b]).length) Slot.unset).toArray = ls at hl ⊢
  have hl : lv_has ls 7 [(0, .long a), (2, .long b)] := hl
  refine lv_iconst (v := 0) hx hb dX11_greatestDivisor_0 (by decide) ?_
  refine lv_istore (lv' := [(4, .int 0), (0, .long a), (2, .long b)]) hx hb dX11_greatestDivisor_1 hl (by decide) rfl (fun ls hl => ?_)
  have lp170 : ∀ (nn170 : Nat) (x169_4 : Int32) (x169_0 : Int64) (x169_2 : Int64), 0 ≤ x169_4.toInt ∧ x169_4.toInt ≤ 100 → (gN (x169_0 : Int64).toInt (x169_2 : Int64).toInt = gN (a).toInt (b).toInt) → 0 ≤ (x169_0 : Int64).toInt → (0 ≤ (x169_2 : Int64).toInt) → (gQ (x169_4 : Int32).toInt (x169_0 : Int64).toInt (x169_2 : Int64).toInt) → (x169_4 : Int32).toInt ≤ 100 → 100 - x169_4.toInt < (nn170 : Int) → ∀ (ls : Array Slot), lv_has ls 7 [(4, .int x169_4), (0, .long x169_0), (2, .long x169_2)] → W p l e ({ frames := 0, cells := 0, slots := 0, locals := 0 } : Room) s m ([.long a, .long b] : List Value).toArray below meth c s.heap [] 0 0 (MQ below (vp_Sl (fun r => (True) ∧ (r.toInt = gN a.toInt b.toInt))) ([.long a, .long b] : List Value).toArray s 0 0 (fun _ => False)) (F0 m 3 ls []) := by
    intro nn170
    induction nn170 with
    | zero => intro x169_4 x169_0 x169_2 hx169_4 hq170_0 hq170_1 hq170_2 hq170_3 hq170_4 hm170; exfalso; omega
    | succ nn170 ih170 =>
      intro x169_4 x169_0 x169_2 hx169_4 hq170_0 hq170_1 hq170_2 hq170_3 hq170_4 hm170 ls hl
      refine lv_iload hx hb dX11_greatestDivisor_3 (lv_at hl 0 rfl) ?_
      refine lv_bipush (v := 100) hx hb dX11_greatestDivisor_5 (by decide) ?_
      refine lv_icmp_ge (tgt := 32) hx hb dX11_greatestDivisor_7 (by decide) (fun c171 => ?_) (fun c171 => ?_)
      · have fc171 := z_le (by decide : (100 : Int32).toInt = 100) (rfl : (x169_4).toInt = _) c171
        refine lv_lload_n hx hb dX11_greatestDivisor_32 rfl (lv_at hl 1 rfl) ?_
        exact W.lret (v := x169_0) hx hb hr (fun t ht9 hW => ⟨x169_0, rfl, ⟨trivial, (show (x169_0 : Int64).toInt = gN (a).toInt (b).toInt from (by have hq9 := hq170_0; have hz9 : (x169_2 : Int64).toInt = 0 := (by first | omega | exact gQ_end (by omega) (by omega) hq170_3); rw [hz9, gN_0 (by omega)] at hq9; exact hq9))⟩, ht9⟩) (fun q hq => by cases hq) dX11_greatestDivisor_33
      · have fc171 := z_nle (by decide : (100 : Int32).toInt = 100) (rfl : (x169_4).toInt = _) c171
        refine lv_lload_n hx hb dX11_greatestDivisor_10 rfl (lv_at hl 2 rfl) ?_
        refine lv_lconst (v := 0) hx hb dX11_greatestDivisor_11 (by decide) ?_
        refine W.lcmp hx hb dX11_greatestDivisor_12 ?_
        refine lv_topi (fun v172 ev172 => ?_)
        refine lv_if_eq (tgt := 32) hx hb dX11_greatestDivisor_13 (by decide) (fun c173 => ?_) (fun c173 => ?_)
        · have fc173 := zc_eq ev172 (rfl : (x169_2).toInt = _) (by decide : (0 : Int64).toInt = 0) c173
          refine lv_lload_n hx hb dX11_greatestDivisor_32 rfl (lv_at hl 1 rfl) ?_
          exact W.lret (v := x169_0) hx hb hr (fun t ht9 hW => ⟨x169_0, rfl, ⟨trivial, (show (x169_0 : Int64).toInt = gN (a).toInt (b).toInt from (by have hq9 := hq170_0; have hz9 : (x169_2 : Int64).toInt = 0 := (by first | omega | exact gQ_end (by omega) (by omega) hq170_3); rw [hz9, gN_0 (by omega)] at hq9; exact hq9))⟩, ht9⟩) (fun q hq => by cases hq) dX11_greatestDivisor_33
        · have fc173 := zc_ne ev172 (rfl : (x169_2).toInt = _) (by decide : (0 : Int64).toInt = 0) c173
          refine lv_lload_n hx hb dX11_greatestDivisor_16 rfl (lv_at hl 1 rfl) ?_
          refine lv_lload_n hx hb dX11_greatestDivisor_17 rfl (lv_at hl 2 rfl) ?_
          have zw174 : (x169_2 : Int64).toInt ≠ 0 := by omega
          refine lv_lrem hx hb dX11_greatestDivisor_18 (l_nz rfl zw174) ?_
          refine lv_topl (fun w174 ew174 => ?_)
          refine lv_lstore (lv' := [(5, .long w174), (4, .int x169_4), (0, .long x169_0), (2, .long x169_2)]) hx hb dX11_greatestDivisor_19 hl (by decide) rfl (fun ls hl => ?_)
          refine lv_lload_n hx hb dX11_greatestDivisor_21 rfl (lv_at hl 3 rfl) ?_
          refine lv_lstore_n (lv' := [(0, .long x169_2), (5, .long w174), (4, .int x169_4), (2, .long x169_2)]) hx hb dX11_greatestDivisor_22 rfl hl (by decide) rfl (fun ls hl => ?_)
          refine lv_lload hx hb dX11_greatestDivisor_23 (lv_at hl 1 rfl) ?_
          refine lv_lstore_n (lv' := [(2, .long w174), (0, .long x169_2), (5, .long w174), (4, .int x169_4)]) hx hb dX11_greatestDivisor_25 rfl hl (by decide) rfl (fun ls hl => ?_)
          obtain ⟨v175, ev175⟩ : ∃ y : Int32, y = x169_4 + 1 := ⟨_, rfl⟩
          have tv175 := z_add ev175 rfl (by decide : (1 : Int32).toInt = 1) (by omega) (by omega)
          refine lv_iinc (v := v175) (lv' := [(4, .int v175), (2, .long w174), (0, .long x169_2), (5, .long w174)]) hx hb dX11_greatestDivisor_26 hl (k := 3) rfl (by rw [ev175]; rfl) (by decide) rfl (fun ls hl => ?_)
          refine lv_goto (tgt := 3) hx hb dX11_greatestDivisor_29 (by decide) ?_
          exact ih170 v175 x169_2 w174 ⟨by omega, by omega⟩ (show gN (x169_2 : Int64).toInt (w174 : Int64).toInt = gN (a).toInt (b).toInt from (by have hm9 := l_remp ew174 (rfl : (x169_0 : Int64).toInt = _) (rfl : (x169_2 : Int64).toInt = _) (by omega) (by omega); rw [hm9, gN_step (by omega) (by omega)]; exact hq170_0)) (show 0 ≤ (x169_2 : Int64).toInt from by omega) (show 0 ≤ (w174 : Int64).toInt from (by have hm9 := l_remp ew174 (rfl : (x169_0 : Int64).toInt = _) (rfl : (x169_2 : Int64).toInt = _) (by omega) (by omega); rw [hm9]; exact Int.emod_nonneg _ (by omega))) (show gQ (v175 : Int32).toInt (x169_2 : Int64).toInt (w174 : Int64).toInt from (by have hm9 := l_remp ew174 (rfl : (x169_0 : Int64).toInt = _) (rfl : (x169_2 : Int64).toInt = _) (by omega) (by omega); rw [hm9, show (v175 : Int32).toInt = (x169_4 : Int32).toInt + 1 from by omega]; exact gQ_step (by omega) (by omega) (by omega) hq170_3)) (show (v175 : Int32).toInt ≤ 100 from by omega) (by omega) ls (lv_sub hl [0, 2, 1] rfl)
  have : (0 : Int32).toInt = 0 := (by decide)
  exact lp170 101 0 a b ⟨by decide, by decide⟩ (show gN (a : Int64).toInt (b : Int64).toInt = gN (a).toInt (b).toInt from rfl) (show 0 ≤ (a : Int64).toInt from by omega) (show 0 ≤ (b : Int64).toInt from by omega) (show gQ (0 : Int32).toInt (a : Int64).toInt (b : Int64).toInt from (by have hz : (0 : Int32).toInt = 0 := (by decide); exact Or.inl ⟨by omega, by omega⟩)) (show (0 : Int32).toInt ≤ 100 from by omega) (by first | decide | omega) ls (lv_sub hl [0, 1, 2] rfl)
set_option maxHeartbeats 4000000 in
set_option maxRecDepth 100000 in
/-- X11_inLeastTerms -/
theorem c_X11_inLeastTerms_g (l : Launch) (dC : Nat → ClassId) (dI : Nat → Nat → Nat) (a : Int64) (b : Int64) (d : Int32) (p_0 : 0 ≤ a.toInt) (p_1 : 1 ≤ b.toInt) (p_2 : b.toInt ≤ 281474976710656) : Met l yX11_inLeastTerms (wc yX11_inLeastTerms cX11_inLeastTerms 9 (some .long)) ({ frames := 1, cells := 0, slots := 0, locals := 26 } : Room) (pR (dC, dI) classes [] [] [.long a, .long b, .int d]) (vp_Sl (fun r => (True) ∧ (((d.toInt = 0 ∧ r.toInt = a.toInt / gN a.toInt b.toInt) ∨ (d.toInt ≠ 0 ∧ r.toInt = b.toInt / gN a.toInt b.toInt))))) 0 0 (fun _ => False) := by
  refine Met.ofW (cc := cX11_inLeastTerms) (maxL := 9) (ret := (some .long)) (by decide) rfl ?_
  intro p e s m args below meth c s₁ B hml hv
  obtain ⟨rfl, hP, hK⟩ := hv
  have hx := B.exec
  have hb := B.bytes
  have hr := B.returns
  have ht := tb_tl (atoms_spec (ws := wc yX11_inLeastTerms cX11_inLeastTerms 9 (some .long)) B.pre)
  have hown : s.vm.findClass RX11 = some m.cls := findClass_of_methodNamed B.named
  have hlocks := B.notSynchronized
  have hl := lv_entry [.long a, .long b, .int d] (n := 9) (Nat.le_of_ble_eq_true rfl)
  rw [lg_entry_eq]
  generalize (lg_sl [.long a, .long b, .int d] ++ List.replicate (9 - (lg_sl [.long a, .long b, .int d]).length) Slot.unset).toArray = ls at hl ⊢
  have hl : lv_has ls 9 [(0, .long a), (2, .long b), (4, .int d)] := hl
  refine lv_lload_n hx hb dX11_inLeastTerms_0 rfl (lv_at hl 0 rfl) ?_
  refine lv_lload_n hx hb dX11_inLeastTerms_1 rfl (lv_at hl 1 rfl) ?_
  refine vp_callSl (W.runS (As := [.long a, .long b]) (rest := []) ⟨hx, hb, hml, hown, ht⟩ (c_X11_greatestDivisor_g l dC dI a b (show 0 ≤ (a : Int64).toInt from by omega) (show 0 ≤ (b : Int64).toInt from by omega) (show (b : Int64).toInt ≤ 281474976710656 from by omega)) (kS 2 ht m_584 m_585 m_77 m_586 rfl rfl hd_X11_greatestDivisor_v ⟨Nat.le_of_ble_eq_true rfl, Nat.le_of_ble_eq_true rfl⟩) (sR noP (hK.sub (tys' := []) [] rfl)) rfl rfl hl.1 rfl (lv_room (Nat.le_of_ble_eq_true rfl)) dX11_inLeastTerms_2 ⟨Nat.le_of_ble_eq_true rfl, Nat.le_of_ble_eq_true rfl⟩) (fun r1 hr1 => ?_)
  obtain ⟨hr1, xr1_0⟩ := hr1
  have xr1_0 : (r1 : Int64).toInt = gN (a : Int64).toInt (b : Int64).toInt := xr1_0
  refine lv_lstore (lv' := [(5, .long r1), (0, .long a), (2, .long b), (4, .int d)]) hx hb dX11_inLeastTerms_5 hl (by decide) rfl (fun ls hl => ?_)
  refine lv_iload hx hb dX11_inLeastTerms_7 (lv_at hl 3 rfl) ?_
  refine lv_if_ne (tgt := 16) hx hb dX11_inLeastTerms_9 (by decide) (fun c2 => ?_) (fun c2 => ?_)
  · have fc2 := z_ne (rfl : (d).toInt = _) (by decide : (0 : Int32).toInt = 0) c2
    refine lv_lload_n hx hb dX11_inLeastTerms_16 rfl (lv_at hl 2 rfl) ?_
    refine lv_lstore (lv' := [(7, .long b), (5, .long r1), (0, .long a), (2, .long b), (4, .int d)]) hx hb dX11_inLeastTerms_17 hl (by decide) rfl (fun ls hl => ?_)
    refine lv_lload hx hb dX11_inLeastTerms_19 (lv_at hl 1 rfl) ?_
    refine lv_lconst (v := 0) hx hb dX11_inLeastTerms_21 (by decide) ?_
    refine W.lcmp hx hb dX11_inLeastTerms_22 ?_
    refine lv_topi (fun v3 ev3 => ?_)
    refine lv_if_ne (tgt := 31) hx hb dX11_inLeastTerms_23 (by decide) (fun c4 => ?_) (fun c4 => ?_)
    · have fc4 := zc_ne ev3 (rfl : (r1).toInt = _) (by decide : (0 : Int64).toInt = 0) c4
      refine lv_lload hx hb dX11_inLeastTerms_31 (lv_at hl 0 rfl) ?_
      refine lv_lload hx hb dX11_inLeastTerms_33 (lv_at hl 1 rfl) ?_
      have zw5 : (r1 : Int64).toInt ≠ 0 := by omega
      refine lv_ldiv hx hb dX11_inLeastTerms_35 (l_nz rfl zw5) ?_
      refine lv_topl (fun w5 ew5 => ?_)
      exact W.lret (v := w5) hx hb hr (fun t ht9 hW => ⟨w5, rfl, ⟨trivial, (show (((d).toInt = 0 ∧ (w5 : Int64).toInt = (a).toInt / gN (a).toInt (b).toInt) ∨ ((d).toInt ≠ 0 ∧ (w5 : Int64).toInt = (b).toInt / gN (a).toInt (b).toInt)) from (by have hp9 := gN_pos (x := a.toInt) (y := b.toInt) (by omega); have hm9 := l_divp ew5 (rfl : (b : Int64).toInt = _) xr1_0 (by omega) (by omega); exact Or.inr ⟨by omega, hm9⟩))⟩, ht9⟩) (fun q hq => by cases hq) dX11_inLeastTerms_36
    · have fc4 := zc_eq ev3 (rfl : (r1).toInt = _) (by decide : (0 : Int64).toInt = 0) c4
      refine lv_lload hx hb dX11_inLeastTerms_26 (lv_at hl 0 rfl) ?_
      refine lv_goto (tgt := 36) hx hb dX11_inLeastTerms_28 (by decide) ?_
      exact W.lret (v := b) hx hb hr (fun t ht9 hW => ⟨b, rfl, ⟨trivial, (show (((d).toInt = 0 ∧ (b : Int64).toInt = (a).toInt / gN (a).toInt (b).toInt) ∨ ((d).toInt ≠ 0 ∧ (b : Int64).toInt = (b).toInt / gN (a).toInt (b).toInt)) from (by have hp9 := gN_pos (x := a.toInt) (y := b.toInt) (by omega); exfalso; omega))⟩, ht9⟩) (fun q hq => by cases hq) dX11_inLeastTerms_36
  · have fc2 := z_eq (rfl : (d).toInt = _) (by decide : (0 : Int32).toInt = 0) c2
    refine lv_lload_n hx hb dX11_inLeastTerms_12 rfl (lv_at hl 1 rfl) ?_
    refine lv_goto (tgt := 17) hx hb dX11_inLeastTerms_13 (by decide) ?_
    refine lv_lstore (lv' := [(7, .long a), (5, .long r1), (0, .long a), (2, .long b), (4, .int d)]) hx hb dX11_inLeastTerms_17 hl (by decide) rfl (fun ls hl => ?_)
    refine lv_lload hx hb dX11_inLeastTerms_19 (lv_at hl 1 rfl) ?_
    refine lv_lconst (v := 0) hx hb dX11_inLeastTerms_21 (by decide) ?_
    refine W.lcmp hx hb dX11_inLeastTerms_22 ?_
    refine lv_topi (fun v6 ev6 => ?_)
    refine lv_if_ne (tgt := 31) hx hb dX11_inLeastTerms_23 (by decide) (fun c7 => ?_) (fun c7 => ?_)
    · have fc7 := zc_ne ev6 (rfl : (r1).toInt = _) (by decide : (0 : Int64).toInt = 0) c7
      refine lv_lload hx hb dX11_inLeastTerms_31 (lv_at hl 0 rfl) ?_
      refine lv_lload hx hb dX11_inLeastTerms_33 (lv_at hl 1 rfl) ?_
      have zw8 : (r1 : Int64).toInt ≠ 0 := by omega
      refine lv_ldiv hx hb dX11_inLeastTerms_35 (l_nz rfl zw8) ?_
      refine lv_topl (fun w8 ew8 => ?_)
      exact W.lret (v := w8) hx hb hr (fun t ht9 hW => ⟨w8, rfl, ⟨trivial, (show (((d).toInt = 0 ∧ (w8 : Int64).toInt = (a).toInt / gN (a).toInt (b).toInt) ∨ ((d).toInt ≠ 0 ∧ (w8 : Int64).toInt = (b).toInt / gN (a).toInt (b).toInt)) from (by have hp9 := gN_pos (x := a.toInt) (y := b.toInt) (by omega); have hm9 := l_divp ew8 (rfl : (a : Int64).toInt = _) xr1_0 (by omega) (by omega); exact Or.inl ⟨by omega, hm9⟩))⟩, ht9⟩) (fun q hq => by cases hq) dX11_inLeastTerms_36
    · have fc7 := zc_eq ev6 (rfl : (r1).toInt = _) (by decide : (0 : Int64).toInt = 0) c7
      refine lv_lload hx hb dX11_inLeastTerms_26 (lv_at hl 0 rfl) ?_
      refine lv_goto (tgt := 36) hx hb dX11_inLeastTerms_28 (by decide) ?_
      exact W.lret (v := a) hx hb hr (fun t ht9 hW => ⟨a, rfl, ⟨trivial, (show (((d).toInt = 0 ∧ (a : Int64).toInt = (a).toInt / gN (a).toInt (b).toInt) ∨ ((d).toInt ≠ 0 ∧ (a : Int64).toInt = (b).toInt / gN (a).toInt (b).toInt)) from (by have hp9 := gN_pos (x := a.toInt) (y := b.toInt) (by omega); exfalso; omega))⟩, ht9⟩) (fun q hq => by cases hq) dX11_inLeastTerms_36
set_option maxHeartbeats 4000000 in
set_option maxRecDepth 100000 in
/-- X12_plain -/
theorem c_X12_plain_g (l : Launch) (dC : Nat → ClassId) (dI : Nat → Nat → Nat) (a : Int64) : Met l yX12_plain (wc yX12_plain cX12_plain 2 (some .long)) ({ frames := 0, cells := 0, slots := 0, locals := 0 } : Room) (pR (dC, dI) classes [] [] [.long a]) (vp_Sl (fun r => (True) ∧ ((a.toInt < 0 ∨ r.toInt = a.toInt)))) 0 0 (fun _ => False) := by
  refine Met.ofW (cc := cX12_plain) (maxL := 2) (ret := (some .long)) (by decide) rfl ?_
  intro p e s m args below meth c s₁ B hml hv
  obtain ⟨rfl, hP, hK⟩ := hv
  have hx := B.exec
  have hb := B.bytes
  have hr := B.returns
  have ht := tb_tl (atoms_spec (ws := wc yX12_plain cX12_plain 2 (some .long)) B.pre)
  have hown : s.vm.findClass RX12 = some m.cls := findClass_of_methodNamed B.named
  have hlocks := B.notSynchronized
  have hl := lv_entry [.long a] (n := 2) (Nat.le_of_ble_eq_true rfl)
  rw [lg_entry_eq]
  generalize (lg_sl [.long a] ++ List.replicate (2 - (lg_sl [.long a]).length) Slot.unset).toArray = ls at hl ⊢
  have hl : lv_has ls 2 [(0, .long a)] := hl
  refine lv_lload_n hx hb dX12_plain_0 rfl (lv_at hl 0 rfl) ?_
  refine lv_lconst (v := 0) hx hb dX12_plain_1 (by decide) ?_
  refine W.lcmp hx hb dX12_plain_2 ?_
  refine lv_topi (fun v1 ev1 => ?_)
  refine lv_if_ge (tgt := 12) hx hb dX12_plain_3 (by decide) (fun c2 => ?_) (fun c2 => ?_)
  · have fc2 := zc_nlt ev1 (rfl : (a).toInt = _) (by decide : (0 : Int64).toInt = 0) (Int32.not_lt.mpr c2)
    refine lv_lload_n hx hb dX12_plain_12 rfl (lv_at hl 0 rfl) ?_
    exact W.lret (v := a) hx hb hr (fun t ht9 hW => ⟨a, rfl, ⟨trivial, (show ((a).toInt < 0 ∨ (a : Int64).toInt = (a).toInt) from by omega)⟩, ht9⟩) (fun q hq => by cases hq) dX12_plain_13
  · have fc2 := zc_lt ev1 (rfl : (a).toInt = _) (by decide : (0 : Int64).toInt = 0) (Int32.not_le.mp c2)
    refine lv_lconst (v := 0) hx hb dX12_plain_6 (by decide) ?_
    refine lv_lload_n hx hb dX12_plain_7 rfl (lv_at hl 0 rfl) ?_
    refine lv_lsub hx hb dX12_plain_8 ?_
    refine lv_topl (fun w3 ew3 => ?_)
    refine lv_goto (tgt := 13) hx hb dX12_plain_9 (by decide) ?_
    exact W.lret (v := w3) hx hb hr (fun t ht9 hW => ⟨w3, rfl, ⟨trivial, (show ((a).toInt < 0 ∨ (w3 : Int64).toInt = (a).toInt) from by omega)⟩, ht9⟩) (fun q hq => by cases hq) dX12_plain_13
set_option maxHeartbeats 4000000 in
set_option maxRecDepth 100000 in
/-- X12_gcd -/
theorem c_X12_gcd_g (l : Launch) (dC : Nat → ClassId) (dI : Nat → Nat → Nat) (a : Int64) (b : Int64) (p_0 : 0 ≤ a.toInt) (p_1 : 0 ≤ b.toInt) : Met l yX12_gcd (wc yX12_gcd cX12_gcd 10 (some .long)) ({ frames := 1, cells := 0, slots := 0, locals := 21 } : Room) (pR (dC, dI) classes [] [] [.long a, .long b]) (vp_Sl (fun r => (True) ∧ (r.toInt = gN a.toInt b.toInt))) 0 0 (fun _ => False) := by
  refine Met.ofW (cc := cX12_gcd) (maxL := 10) (ret := (some .long)) (by decide) rfl ?_
  intro p e s m args below meth c s₁ B hml hv
  obtain ⟨rfl, hP, hK⟩ := hv
  have hx := B.exec
  have hb := B.bytes
  have hr := B.returns
  have ht := tb_tl (atoms_spec (ws := wc yX12_gcd cX12_gcd 10 (some .long)) B.pre)
  have hown : s.vm.findClass RX12 = some m.cls := findClass_of_methodNamed B.named
  have hlocks := B.notSynchronized
  have hl := lv_entry [.long a, .long b] (n := 10) (Nat.le_of_ble_eq_true rfl)
  rw [lg_entry_eq]
  generalize (lg_sl [.long a, .long b] ++ List.replicate (10 - (lg_sl [.long a, .long b]).length) Slot.unset).toArray = ls at hl ⊢
  have hl : lv_has ls 10 [(0, .long a), (2, .long b)] := hl
  refine lv_lload_n hx hb dX12_gcd_0 rfl (lv_at hl 0 rfl) ?_
  refine vp_callSl (W.runS (As := [.long a]) (rest := []) ⟨hx, hb, hml, hown, ht⟩ (c_X12_plain_g l dC dI a) (kS 1 ht m_1445 m_1446 m_89 m_1447 rfl rfl hd_X12_plain_v ⟨Nat.le_of_ble_eq_true rfl, Nat.le_of_ble_eq_true rfl⟩) (sR noP (hK.sub (tys' := []) [] rfl)) rfl rfl hl.1 rfl (lv_room (Nat.le_of_ble_eq_true rfl)) dX12_gcd_1 ⟨Nat.le_of_ble_eq_true rfl, Nat.le_of_ble_eq_true rfl⟩) (fun r1 hr1 => ?_)
  obtain ⟨hr1, xr1_0⟩ := hr1
  have xr1_0 : ((a : Int64).toInt < 0 ∨ (r1 : Int64).toInt = (a : Int64).toInt) := xr1_0
  refine lv_lstore (lv' := [(4, .long r1), (0, .long a), (2, .long b)]) hx hb dX12_gcd_4 hl (by decide) rfl (fun ls hl => ?_)
  refine lv_lload_n hx hb dX12_gcd_6 rfl (lv_at hl 2 rfl) ?_
  refine vp_callSl (W.runS (As := [.long b]) (rest := []) ⟨hx, hb, hml, hown, ht⟩ (c_X12_plain_g l dC dI b) (kS 1 ht m_1445 m_1446 m_89 m_1447 rfl rfl hd_X12_plain_v ⟨Nat.le_of_ble_eq_true rfl, Nat.le_of_ble_eq_true rfl⟩) (sR noP (hK.sub (tys' := []) [] rfl)) rfl rfl hl.1 rfl (lv_room (Nat.le_of_ble_eq_true rfl)) dX12_gcd_7 ⟨Nat.le_of_ble_eq_true rfl, Nat.le_of_ble_eq_true rfl⟩) (fun r2 hr2 => ?_)
  obtain ⟨hr2, xr2_0⟩ := hr2
  have xr2_0 : ((b : Int64).toInt < 0 ∨ (r2 : Int64).toInt = (b : Int64).toInt) := xr2_0
  refine lv_lstore (lv' := [(6, .long r2), (4, .long r1), (0, .long a), (2, .long b)]) hx hb dX12_gcd_10 hl (by decide) rfl (fun ls hl => ?_)
  have lp8 : ∀ (nn8 : Nat) (x7_6 : Int64) (x7_4 : Int64), (gN (x7_4 : Int64).toInt (x7_6 : Int64).toInt = gN (a).toInt (b).toInt) → 0 ≤ (x7_4 : Int64).toInt → (0 ≤ (x7_6 : Int64).toInt) → (((x7_6 : Int64).toInt).natAbs : Int) < (nn8 : Int) → ∀ (ls : Array Slot), lv_has ls 10 [(6, .long x7_6), (4, .long x7_4), (0, .long a), (2, .long b)] → W p l e ({ frames := 1, cells := 0, slots := 0, locals := 21 } : Room) s m ([.long a, .long b] : List Value).toArray below meth c s.heap [] 0 0 (MQ below (vp_Sl (fun r => (True) ∧ (r.toInt = gN a.toInt b.toInt))) ([.long a, .long b] : List Value).toArray s 0 0 (fun _ => False)) (F0 m 12 ls []) := by
    intro nn8
    induction nn8 with
    | zero => intro x7_6 x7_4 hq8_0 hq8_1 hq8_2 hm8; exfalso; omega
    | succ nn8 ih8 =>
      intro x7_6 x7_4 hq8_0 hq8_1 hq8_2 hm8 ls hl
      refine lv_lload hx hb dX12_gcd_12 (lv_at hl 0 rfl) ?_
      refine lv_lconst (v := 0) hx hb dX12_gcd_14 (by decide) ?_
      refine W.lcmp hx hb dX12_gcd_15 ?_
      refine lv_topi (fun v9 ev9 => ?_)
      refine lv_if_eq (tgt := 37) hx hb dX12_gcd_16 (by decide) (fun c10 => ?_) (fun c10 => ?_)
      · have fc10 := zc_eq ev9 (rfl : (x7_6).toInt = _) (by decide : (0 : Int64).toInt = 0) c10
        refine lv_lload hx hb dX12_gcd_37 (lv_at hl 1 rfl) ?_
        exact W.lret (v := x7_4) hx hb hr (fun t ht9 hW => ⟨x7_4, rfl, ⟨trivial, (show (x7_4 : Int64).toInt = gN (a).toInt (b).toInt from (by have hq9 := hq8_0; have hz9 : (x7_6 : Int64).toInt = 0 := (by omega); rw [hz9, gN_0 (by omega)] at hq9; exact hq9))⟩, ht9⟩) (fun q hq => by cases hq) dX12_gcd_39
      · have fc10 := zc_ne ev9 (rfl : (x7_6).toInt = _) (by decide : (0 : Int64).toInt = 0) c10
        refine lv_lload hx hb dX12_gcd_19 (lv_at hl 1 rfl) ?_
        refine lv_lload hx hb dX12_gcd_21 (lv_at hl 0 rfl) ?_
        have zw11 : (x7_6 : Int64).toInt ≠ 0 := by omega
        refine lv_lrem hx hb dX12_gcd_23 (l_nz rfl zw11) ?_
        refine lv_topl (fun w11 ew11 => ?_)
        have tw11 := l_rem ew11 (rfl : (x7_4 : Int64).toInt = _) (rfl : (x7_6 : Int64).toInt = _) zw11
        refine lv_lstore (lv' := [(8, .long w11), (6, .long x7_6), (4, .long x7_4), (0, .long a), (2, .long b)]) hx hb dX12_gcd_24 hl (by decide) rfl (fun ls hl => ?_)
        refine lv_lload hx hb dX12_gcd_26 (lv_at hl 1 rfl) ?_
        refine lv_lstore (lv' := [(4, .long x7_6), (8, .long w11), (6, .long x7_6), (0, .long a), (2, .long b)]) hx hb dX12_gcd_28 hl (by decide) rfl (fun ls hl => ?_)
        refine lv_lload hx hb dX12_gcd_30 (lv_at hl 1 rfl) ?_
        refine lv_lstore (lv' := [(6, .long w11), (4, .long x7_6), (8, .long w11), (0, .long a), (2, .long b)]) hx hb dX12_gcd_32 hl (by decide) rfl (fun ls hl => ?_)
        refine lv_goto (tgt := 12) hx hb dX12_gcd_34 (by decide) ?_
        exact ih8 w11 x7_6 (show gN (x7_6 : Int64).toInt (w11 : Int64).toInt = gN (a).toInt (b).toInt from (by have hm9 := l_remp ew11 (rfl : (x7_4 : Int64).toInt = _) (rfl : (x7_6 : Int64).toInt = _) (by omega) (by omega); rw [hm9, gN_step (by omega) (by omega)]; exact hq8_0)) (show 0 ≤ (x7_6 : Int64).toInt from by omega) (show 0 ≤ (w11 : Int64).toInt from (by have hm9 := l_remp ew11 (rfl : (x7_4 : Int64).toInt = _) (rfl : (x7_6 : Int64).toInt = _) (by omega) (by omega); rw [hm9]; exact Int.emod_nonneg _ (by omega))) (by omega) ls (lv_sub hl [0, 1, 3, 4] rfl)
  exact lp8 ((r2 : Int64).toInt.natAbs + 1) r2 r1 (show gN (r1 : Int64).toInt (r2 : Int64).toInt = gN (a).toInt (b).toInt from (by have h1 : (r1 : Int64).toInt = a.toInt := (by omega); have h2 : (r2 : Int64).toInt = b.toInt := (by omega); rw [h1, h2])) (show 0 ≤ (r1 : Int64).toInt from by omega) (show 0 ≤ (r2 : Int64).toInt from by omega) (show (((r2 : Int64).toInt).natAbs : Int) < _ from by omega) ls (lv_sub hl [0, 1, 2, 3] rfl)
