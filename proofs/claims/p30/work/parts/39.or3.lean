/-! ===== or3 ===== -/
set_option maxHeartbeats 4000000 in
set_option maxRecDepth 100000 in
/-- X12_power -/
theorem c_X12_power_e (l : Launch) (dC : Nat → ClassId) (dI : Nat → Nat → Nat) (mm : Int32) (b : Int32) (h_mm : 1 ≤ mm.toInt ∧ mm.toInt ≤ 3) (h_b : 0 ≤ b.toInt ∧ b.toInt ≤ 8) : Met l yX12_power (wc yX12_power cX12_power 4 (some .int)) ({ frames := 0, cells := 0, slots := 0, locals := 0 } : Room) (pR (dC, dI) classes [] [] [.int mm, .int b]) (vp_Si (fun r => (1 ≤ r.toInt ∧ r.toInt ≤ 6561) ∧ (r.toInt = (((mm.toInt).toNat ^ (b.toInt).toNat : Nat) : Int)))) 0 0 (fun _ => False) := by
  refine Met.ofW (cc := cX12_power) (maxL := 4) (ret := (some .int)) (by decide) rfl ?_
  intro p e s m args below meth c s₁ B hml hv
  obtain ⟨rfl, hP, hK⟩ := hv
  have hx := B.exec
  have hb := B.bytes
  have hr := B.returns
  have ht := tb_tl (atoms_spec (ws := wc yX12_power cX12_power 4 (some .int)) B.pre)
  have hown : s.vm.findClass RX12 = some m.cls := findClass_of_methodNamed B.named
  have hlocks := B.notSynchronized
  have hl := lv_entry [.int mm, .int b] (n := 4) (Nat.le_of_ble_eq_true rfl)
  rw [lg_entry_eq]
  generalize (lg_sl [.int mm, .int b] ++ List.replicate (4 - (lg_sl [.int mm, .int b]).length) Slot.unset).toArray = ls at hl ⊢
  have hl : lv_has ls 4 [(0, .int mm), (1, .int b)] := hl
  refine lv_iconst (v := 1) hx hb dX12_power_0 (by decide) ?_
  refine lv_istore_n (lv' := [(2, .int 1), (0, .int mm), (1, .int b)]) hx hb dX12_power_1 rfl hl (by decide) rfl (fun ls hl => ?_)
  refine lv_iconst (v := 0) hx hb dX12_power_2 (by decide) ?_
  refine lv_istore_n (lv' := [(3, .int 0), (2, .int 1), (0, .int mm), (1, .int b)]) hx hb dX12_power_3 rfl hl (by decide) rfl (fun ls hl => ?_)
  have lp38 : ∀ (nn38 : Nat) (x37_3 : Int32) (x37_2 : Int32), 0 ≤ x37_3.toInt ∧ x37_3.toInt ≤ 8 → ((x37_2 : Int32).toInt = ((((mm).toInt).toNat ^ ((x37_3 : Int32).toInt).toNat : Nat) : Int)) → (1 ≤ (x37_2 : Int32).toInt) → ((x37_2 : Int32).toInt ≤ 6561) → (x37_3 : Int32).toInt ≤ (b).toInt → 8 - x37_3.toInt < (nn38 : Int) → ∀ (ls : Array Slot), lv_has ls 4 [(3, .int x37_3), (2, .int x37_2), (0, .int mm), (1, .int b)] → W p l e ({ frames := 0, cells := 0, slots := 0, locals := 0 } : Room) s m ([.int mm, .int b] : List Value).toArray below meth c s.heap [] 0 0 (MQ below (vp_Si (fun r => (1 ≤ r.toInt ∧ r.toInt ≤ 6561) ∧ (r.toInt = (((mm.toInt).toNat ^ (b.toInt).toNat : Nat) : Int)))) ([.int mm, .int b] : List Value).toArray s 0 0 (fun _ => False)) (F0 m 4 ls []) := by
    intro nn38
    induction nn38 with
    | zero => intro x37_3 x37_2 hx37_3 hq38_0 hq38_1 hq38_2 hq38_3 hm38; exfalso; omega
    | succ nn38 ih38 =>
      intro x37_3 x37_2 hx37_3 hq38_0 hq38_1 hq38_2 hq38_3 hm38 ls hl
      refine lv_iload_n hx hb dX12_power_4 rfl (lv_at hl 0 rfl) ?_
      refine lv_iload_n hx hb dX12_power_5 rfl (lv_at hl 3 rfl) ?_
      refine lv_icmp_ge (tgt := 19) hx hb dX12_power_6 (by decide) (fun c39 => ?_) (fun c39 => ?_)
      · have fc39 := z_le (rfl : (b).toInt = _) (rfl : (x37_3).toInt = _) c39
        refine lv_iload_n hx hb dX12_power_19 rfl (lv_at hl 1 rfl) ?_
        exact W.iret (v := x37_2) hx hb hr (fun t ht9 hW => ⟨x37_2, rfl, ⟨⟨by omega, by omega⟩, (show (x37_2 : Int32).toInt = ((((mm).toInt).toNat ^ ((b).toInt).toNat : Nat) : Int) from (by have hq9 := hq38_0; rw [show ((x37_3 : Int32).toInt).toNat = (b.toInt).toNat from by omega] at hq9; exact hq9))⟩, ht9⟩) (fun q hq => by cases hq) dX12_power_20
      · have fc39 := z_nle (rfl : (b).toInt = _) (rfl : (x37_3).toInt = _) c39
        refine lv_iload_n hx hb dX12_power_9 rfl (lv_at hl 1 rfl) ?_
        refine lv_iload_n hx hb dX12_power_10 rfl (lv_at hl 2 rfl) ?_
        refine lv_imul hx hb dX12_power_11 ?_
        refine lv_topi (fun v40 ev40 => ?_)
        refine lv_istore_n (lv' := [(2, .int v40), (3, .int x37_3), (0, .int mm), (1, .int b)]) hx hb dX12_power_12 rfl hl (by decide) rfl (fun ls hl => ?_)
        obtain ⟨v41, ev41⟩ : ∃ y : Int32, y = x37_3 + 1 := ⟨_, rfl⟩
        have tv41 := z_add ev41 rfl (by decide : (1 : Int32).toInt = 1) (by omega) (by omega)
        refine lv_iinc (v := v41) (lv' := [(3, .int v41), (2, .int v40), (0, .int mm), (1, .int b)]) hx hb dX12_power_13 hl (k := 1) rfl (by rw [ev41]; rfl) (by decide) rfl (fun ls hl => ?_)
        refine lv_goto (tgt := 4) hx hb dX12_power_16 (by decide) ?_
        exact ih38 v41 v40 ⟨by omega, by omega⟩ (show (v40 : Int32).toInt = ((((mm).toInt).toNat ^ ((v41 : Int32).toInt).toNat : Nat) : Int) from (wy_pw (k := ((x37_3 : Int32).toInt).toNat) (k' := ((v41 : Int32).toInt).toNat) ev40 hq38_0 ⟨by omega, by omega⟩ (by omega) (by omega)).1) (show 1 ≤ (v40 : Int32).toInt from (wy_pw (k := ((x37_3 : Int32).toInt).toNat) (k' := ((v41 : Int32).toInt).toNat) ev40 hq38_0 ⟨by omega, by omega⟩ (by omega) (by omega)).2.1) (show (v40 : Int32).toInt ≤ 6561 from (wy_pw (k := ((x37_3 : Int32).toInt).toNat) (k' := ((v41 : Int32).toInt).toNat) ev40 hq38_0 ⟨by omega, by omega⟩ (by omega) (by omega)).2.2) (show (v41 : Int32).toInt ≤ (b).toInt from by omega) (by omega) ls (lv_sub hl [0, 1, 2, 3] rfl)
  have : (0 : Int32).toInt = 0 := (by decide)
  have : (1 : Int32).toInt = 1 := (by decide)
  exact lp38 9 0 1 ⟨by decide, by decide⟩ (show (1 : Int32).toInt = ((((mm).toInt).toNat ^ ((0 : Int32).toInt).toNat : Nat) : Int) from (by have hz : ((0 : Int32).toInt).toNat = 0 := (by decide); rw [hz, Nat.pow_zero] <;> decide)) (show 1 ≤ (1 : Int32).toInt from by decide) (show (1 : Int32).toInt ≤ 6561 from by decide) (show (0 : Int32).toInt ≤ (b).toInt from by omega) (by first | decide | omega) ls (lv_sub hl [0, 1, 2, 3] rfl)
set_option maxHeartbeats 4000000 in
set_option maxRecDepth 100000 in
/-- X12_ovenOf -/
theorem c_X12_ovenOf_w (l : Launch) (dC : Nat → ClassId) (dI : Nat → Nat → Nat) (h : Nat) (g : Nat → Nat → Nat) (ca : Nat → Nat → ClassId) (iv : Nat → Nat → Int32) (lv : Nat → Nat → Int64) (fa : Nat → Nat → Nat → Int32) (la : Nat → Nat → Nat → Int64) (hI : IX iv fa) (w : Int32) (mm : Int32) (k : Int32) (q_12_57 : 1 ≤ (iv 12 57).toInt ∧ (iv 12 57).toInt ≤ 8) (h_mm : 1 ≤ mm.toInt ∧ mm.toInt ≤ 3) (h_k : 0 ≤ k.toInt ∧ k.toInt ≤ 7) (p_0 : k.toInt + 1 ≤ (iv 12 57).toInt) : Met l yX12_ovenOf (wc yX12_ovenOf cX12_ovenOf 4 (some .int)) ({ frames := 1, cells := 0, slots := 0, locals := 23 } : Room) (pR (dC, dI) classes (WM h g ca iv lv fa la) (TM ca) [.ref h, .int w, .int mm, .int k]) (vp_Si (fun r => (True) ∧ (0 ≤ w.toInt → r.toInt = ((wyD (mm.toInt).toNat ((iv 12 57).toInt).toNat (w.toInt).toNat (k.toInt).toNat : Nat) : Int)))) 0 0 (fun _ => False) := by
  refine Met.ofW (cc := cX12_ovenOf) (maxL := 4) (ret := (some .int)) (by decide) rfl ?_
  intro p e s m args below meth c s₁ B hml hv
  obtain ⟨rfl, hP, hK⟩ := hv
  have hx := B.exec
  have hb := B.bytes
  have hr := B.returns
  have ht := tb_tl (atoms_spec (ws := wc yX12_ovenOf cX12_ovenOf 4 (some .int)) B.pre)
  have hown : s.vm.findClass RX12 = some m.cls := findClass_of_methodNamed B.named
  have hlocks := B.notSynchronized
  have hl := lv_entry [.ref h, .int w, .int mm, .int k] (n := 4) (Nat.le_of_ble_eq_true rfl)
  rw [lg_entry_eq]
  generalize (lg_sl [.ref h, .int w, .int mm, .int k] ++ List.replicate (4 - (lg_sl [.ref h, .int w, .int mm, .int k]).length) Slot.unset).toArray = ls at hl ⊢
  have hl : lv_has ls 4 [(0, .ref h), (1, .int w), (2, .int mm), (3, .int k)] := hl
  refine lv_iload_n hx hb dX12_ovenOf_0 rfl (lv_at hl 1 rfl) ?_
  refine lv_iload_n hx hb dX12_ovenOf_1 rfl (lv_at hl 2 rfl) ?_
  refine lv_aload_n hx hb dX12_ovenOf_2 rfl (lv_at hl 0 rfl) ?_
  have i_12_57 : 0 ≤ (iv 12 57).toInt ∧ (iv 12 57).toInt ≤ 8 := hI.1 12 57
  refine gM_12_57 hx hb ht hown hK hP m_1196 (v := (iv 12 57)) rfl dX12_ovenOf_3 ?_
  refine lv_iconst (v := 1) hx hb dX12_ovenOf_6 (by decide) ?_
  refine lv_isub hx hb dX12_ovenOf_7 ?_
  refine lv_topi (fun v1 ev1 => ?_)
  have tv1 := z_sub ev1 (rfl : ((iv 12 57)).toInt = _) (by decide : (1 : Int32).toInt = 1) (by omega) (by omega)
  refine lv_iload_n hx hb dX12_ovenOf_8 rfl (lv_at hl 3 rfl) ?_
  refine lv_isub hx hb dX12_ovenOf_9 ?_
  refine lv_topi (fun v2 ev2 => ?_)
  have tv2 := z_sub ev2 (rfl : (v1).toInt = _) (rfl : (k).toInt = _) (by omega) (by omega)
  have : 0 ≤ (v2 : Int32).toInt ∧ (v2 : Int32).toInt ≤ 7 := ⟨by omega, by omega⟩
  refine vp_callSi (W.runS (As := [.int mm, .int v2]) (rest := [.int w]) ⟨hx, hb, hml, hown, ht⟩ (c_X12_power_e l dC dI mm v2 ⟨by omega, by omega⟩ ⟨by omega, by omega⟩) (kS 2 ht m_1649 m_1650 m_89 m_1651 rfl rfl hd_X12_power_v ⟨Nat.le_of_ble_eq_true rfl, Nat.le_of_ble_eq_true rfl⟩) (sR noP (hK.sub (tys' := []) [] rfl)) rfl rfl hl.1 rfl (lv_room (Nat.le_of_ble_eq_true rfl)) dX12_ovenOf_10 ⟨Nat.le_of_ble_eq_true rfl, Nat.le_of_ble_eq_true rfl⟩) (fun r3 hr3 => ?_)
  obtain ⟨hr3, xr3_0⟩ := hr3
  have xr3_0 : (r3 : Int32).toInt = ((((mm : Int32).toInt).toNat ^ ((v2 : Int32).toInt).toNat : Nat) : Int) := xr3_0
  refine lv_idiv hx hb dX12_ovenOf_13 (z_nz (rfl : (r3 : Int32).toInt = _) (by omega)) ?_
  refine lv_topi (fun v4 ev4 => ?_)
  refine lv_iload_n hx hb dX12_ovenOf_14 rfl (lv_at hl 2 rfl) ?_
  refine lv_irem hx hb dX12_ovenOf_15 (z_nz (rfl : (mm : Int32).toInt = _) (by omega)) ?_
  refine lv_topi (fun v5 ev5 => ?_)
  exact W.iret (v := v5) hx hb hr (fun t ht9 hW => ⟨v5, rfl, ⟨trivial, (show 0 ≤ (w).toInt → (v5 : Int32).toInt = ((wyD ((mm).toInt).toNat ((iv 12 57).toInt).toNat ((w).toInt).toNat ((k).toInt).toNat : Nat) : Int) from (fun h0 => wyD_of h0 (by omega) ev4 ev5 xr3_0 (by omega)))⟩, ht9⟩) (fun q hq => by cases hq) dX12_ovenOf_16
set_option maxHeartbeats 4000000 in
set_option maxRecDepth 100000 in
/-- X12_ovenOf -/
theorem c_X12_ovenOf_w0 (l : Launch) (dC : Nat → ClassId) (dI : Nat → Nat → Nat) (h : Nat) (g : Nat → Nat → Nat) (ca : Nat → Nat → ClassId) (iv : Nat → Nat → Int32) (lv : Nat → Nat → Int64) (fa : Nat → Nat → Nat → Int32) (la : Nat → Nat → Nat → Int64) (hI : IX iv fa) (w : Int32) (mm : Int32) (k : Int32) (q_12_57 : 1 ≤ (iv 12 57).toInt ∧ (iv 12 57).toInt ≤ 8) (h_w : 0 ≤ w.toInt ∧ w.toInt ≤ 9999) (h_mm : 1 ≤ mm.toInt ∧ mm.toInt ≤ 3) (h_k : 0 ≤ k.toInt ∧ k.toInt ≤ 7) (p_0 : k.toInt + 1 ≤ (iv 12 57).toInt) : Met l yX12_ovenOf (wc yX12_ovenOf cX12_ovenOf 4 (some .int)) ({ frames := 1, cells := 0, slots := 0, locals := 23 } : Room) (pR (dC, dI) classes (WM h g ca iv lv fa la) (TM ca) [.ref h, .int w, .int mm, .int k]) (vp_Si (fun r => (0 ≤ r.toInt ∧ r.toInt ≤ 2) ∧ (0 ≤ w.toInt → r.toInt = ((wyD (mm.toInt).toNat ((iv 12 57).toInt).toNat (w.toInt).toNat (k.toInt).toNat : Nat) : Int)))) 0 0 (fun _ => False) := by
  refine Met.ofW (cc := cX12_ovenOf) (maxL := 4) (ret := (some .int)) (by decide) rfl ?_
  intro p e s m args below meth c s₁ B hml hv
  obtain ⟨rfl, hP, hK⟩ := hv
  have hx := B.exec
  have hb := B.bytes
  have hr := B.returns
  have ht := tb_tl (atoms_spec (ws := wc yX12_ovenOf cX12_ovenOf 4 (some .int)) B.pre)
  have hown : s.vm.findClass RX12 = some m.cls := findClass_of_methodNamed B.named
  have hlocks := B.notSynchronized
  have hl := lv_entry [.ref h, .int w, .int mm, .int k] (n := 4) (Nat.le_of_ble_eq_true rfl)
  rw [lg_entry_eq]
  generalize (lg_sl [.ref h, .int w, .int mm, .int k] ++ List.replicate (4 - (lg_sl [.ref h, .int w, .int mm, .int k]).length) Slot.unset).toArray = ls at hl ⊢
  have hl : lv_has ls 4 [(0, .ref h), (1, .int w), (2, .int mm), (3, .int k)] := hl
  refine lv_iload_n hx hb dX12_ovenOf_0 rfl (lv_at hl 1 rfl) ?_
  refine lv_iload_n hx hb dX12_ovenOf_1 rfl (lv_at hl 2 rfl) ?_
  refine lv_aload_n hx hb dX12_ovenOf_2 rfl (lv_at hl 0 rfl) ?_
  have i_12_57 : 0 ≤ (iv 12 57).toInt ∧ (iv 12 57).toInt ≤ 8 := hI.1 12 57
  refine gM_12_57 hx hb ht hown hK hP m_1196 (v := (iv 12 57)) rfl dX12_ovenOf_3 ?_
  refine lv_iconst (v := 1) hx hb dX12_ovenOf_6 (by decide) ?_
  refine lv_isub hx hb dX12_ovenOf_7 ?_
  refine lv_topi (fun v1 ev1 => ?_)
  have tv1 := z_sub ev1 (rfl : ((iv 12 57)).toInt = _) (by decide : (1 : Int32).toInt = 1) (by omega) (by omega)
  refine lv_iload_n hx hb dX12_ovenOf_8 rfl (lv_at hl 3 rfl) ?_
  refine lv_isub hx hb dX12_ovenOf_9 ?_
  refine lv_topi (fun v2 ev2 => ?_)
  have tv2 := z_sub ev2 (rfl : (v1).toInt = _) (rfl : (k).toInt = _) (by omega) (by omega)
  have : 0 ≤ (v2 : Int32).toInt ∧ (v2 : Int32).toInt ≤ 7 := ⟨by omega, by omega⟩
  refine vp_callSi (W.runS (As := [.int mm, .int v2]) (rest := [.int w]) ⟨hx, hb, hml, hown, ht⟩ (c_X12_power_e l dC dI mm v2 ⟨by omega, by omega⟩ ⟨by omega, by omega⟩) (kS 2 ht m_1649 m_1650 m_89 m_1651 rfl rfl hd_X12_power_v ⟨Nat.le_of_ble_eq_true rfl, Nat.le_of_ble_eq_true rfl⟩) (sR noP (hK.sub (tys' := []) [] rfl)) rfl rfl hl.1 rfl (lv_room (Nat.le_of_ble_eq_true rfl)) dX12_ovenOf_10 ⟨Nat.le_of_ble_eq_true rfl, Nat.le_of_ble_eq_true rfl⟩) (fun r3 hr3 => ?_)
  obtain ⟨hr3, xr3_0⟩ := hr3
  have xr3_0 : (r3 : Int32).toInt = ((((mm : Int32).toInt).toNat ^ ((v2 : Int32).toInt).toNat : Nat) : Int) := xr3_0
  refine lv_idiv hx hb dX12_ovenOf_13 (z_nz (rfl : (r3 : Int32).toInt = _) (by omega)) ?_
  refine lv_topi (fun v4 ev4 => ?_)
  have tv4 := z_divb ev4 (rfl : (w : Int32).toInt = _) (rfl : (r3 : Int32).toInt = _) (by omega) (by omega)
  refine lv_iload_n hx hb dX12_ovenOf_14 rfl (lv_at hl 2 rfl) ?_
  refine lv_irem hx hb dX12_ovenOf_15 (z_nz (rfl : (mm : Int32).toInt = _) (by omega)) ?_
  refine lv_topi (fun v5 ev5 => ?_)
  have tv5 := z_remb ev5 (rfl : (v4 : Int32).toInt = _) (rfl : (mm : Int32).toInt = _) (by omega) (by omega)
  exact W.iret (v := v5) hx hb hr (fun t ht9 hW => ⟨v5, rfl, ⟨⟨by omega, by omega⟩, (show 0 ≤ (w).toInt → (v5 : Int32).toInt = ((wyD ((mm).toInt).toNat ((iv 12 57).toInt).toNat ((w).toInt).toNat ((k).toInt).toNat : Nat) : Int) from (fun h0 => wyD_of h0 (by omega) ev4 ev5 xr3_0 (by omega)))⟩, ht9⟩) (fun q hq => by cases hq) dX12_ovenOf_16
