/-! ===== sp1 ===== -/

/-- an ERROR counts as forty at most -/
def cl40 (v : Int) : Int := if 40 < v then 40 else if v < -40 then -40 else v
theorem cl40_b (v : Int) : -40 ≤ cl40 v ∧ cl40 v ≤ 40 := by
  unfold cl40
  split
  · omega
  · split <;> omega
def erS (w : Int) (dr : Nat → Int32) (l f : Int) : Int := if w < 2 then er1 dr l f else er0 dr l f
theorem erS_1 {w : Int} {dr : Nat → Int32} {l f : Int} (h : w < 2) : erS w dr l f = er1 dr l f := if_pos h
theorem erS_0 {w : Int} {dr : Nat → Int32} {l f : Int} (h : ¬ w < 2) : erS w dr l f = er0 dr l f := if_neg h
noncomputable def smI (c : Nat → Prop) (f : Nat → Int) : Nat → Int
  | 0 => 0
  | n + 1 => @ite Int (c n) (Classical.propDecidable _) (smI c f n + f n) (smI c f n)
theorem smI_y {c : Nat → Prop} {f : Nat → Int} {n n' : Nat} (h : n' = n + 1) (hc : c n) : smI c f n' = smI c f n + f n := by
  rw [h]; exact if_pos hc
theorem smI_n {c : Nat → Prop} {f : Nat → Int} {n n' : Nat} (h : n' = n + 1) (hc : ¬ c n) : smI c f n' = smI c f n := by
  rw [h]; exact if_neg hc
theorem smI_cg {c c' : Nat → Prop} {f f' : Nat → Int} : ∀ n : Nat, (∀ j : Nat, j < n → (c j ↔ c' j) ∧ f j = f' j) → smI c f n = smI c' f' n
  | 0, _ => rfl
  | n + 1, h => by
    have q := h n (Nat.lt_succ_self n)
    have r := smI_cg n (fun j hj => h j (Nat.lt_succ_of_lt hj))
    by_cases e : c n
    · rw [smI_y rfl e, smI_y rfl (q.1.mp e), r, q.2]
    · rw [smI_n rfl e, smI_n rfl (fun z => e (q.1.mpr z)), r]
theorem smI_b {c : Nat → Prop} {f : Nat → Int} (h : ∀ j : Nat, -40 ≤ f j ∧ f j ≤ 40) : ∀ n : Nat, n ≤ 60 → -40 * (smC c n).toInt ≤ smI c f n ∧ smI c f n ≤ 40 * (smC c n).toInt ∧ 0 ≤ (smC c n).toInt ∧ (smC c n).toInt ≤ (n : Int)
  | 0, _ => by
    have e1 : smI c f 0 = 0 := rfl
    have e2 : (smC c 0).toInt = 0 := by show (0 : Int32).toInt = 0; decide
    rw [e1, e2]; exact ⟨by omega, by omega, by omega, by omega⟩
  | n + 1, hn => by
    obtain ⟨q1, q2, q3, q4⟩ := smI_b (c := c) h n (by omega)
    have z := h n
    by_cases e : c n
    · have a1 : (smC c (n + 1)).toInt = (smC c n).toInt + 1 := by
        rw [smC_y rfl e]; exact z_add rfl rfl (by decide : (1 : Int32).toInt = 1) (by omega) (by omega)
      rw [smI_y rfl e, a1]; exact ⟨by omega, by omega, by omega, by omega⟩
    · rw [smI_n rfl e, smC_n rfl e]; exact ⟨q1, q2, q3, by omega⟩
set_option maxHeartbeats 4000000 in
set_option maxRecDepth 100000 in
/-- X10_get -/
theorem c_X10_get_x2 (l : Launch) (dC : Nat → ClassId) (dI : Nat → Nat → Nat) (h : Nat) (g : Nat → Nat → Nat) (ca : Nat → Nat → ClassId) (iv : Nat → Nat → Int32) (lv : Nat → Nat → Int64) (fa : Nat → Nat → Nat → Int32) (la : Nat → Nat → Nat → Int64) (hI : IX iv fa) (a : Int32) (h_a : 0 ≤ a.toInt ∧ a.toInt ≤ 59) : Met l yX10_get (wc yX10_get cX10_get 3 (some .int)) ({ frames := 0, cells := 0, slots := 0, locals := 0 } : Room) (pR (dC, dI) classes (WX h g ca iv lv fa la) (TX ca) [.ref (g 11 0), .int a, .int 2]) (vp_Si (fun r => (True) ∧ (r.toInt = ((fa 10 0) (9 * (a.toInt).toNat + 2)).toInt))) 0 0 (fun _ => False) := by
  refine Met.ofW (cc := cX10_get) (maxL := 3) (ret := (some .int)) (by decide) rfl ?_
  intro p e s m args below meth c s₁ B hml hv
  obtain ⟨rfl, hP, hK⟩ := hv
  have hx := B.exec
  have hb := B.bytes
  have hr := B.returns
  have ht := tb_tl (atoms_spec (ws := wc yX10_get cX10_get 3 (some .int)) B.pre)
  have hown : s.vm.findClass RX10 = some m.cls := findClass_of_methodNamed B.named
  have hlocks := B.notSynchronized
  have hl := lv_entry [.ref (g 11 0), .int a, .int 2] (n := 3) (Nat.le_of_ble_eq_true rfl)
  rw [lg_entry_eq]
  generalize (lg_sl [.ref (g 11 0), .int a, .int 2] ++ List.replicate (3 - (lg_sl [.ref (g 11 0), .int a, .int 2]).length) Slot.unset).toArray = ls at hl ⊢
  have hl : lv_has ls 3 [(0, .ref (g 11 0)), (1, .int a), (2, .int 2)] := hl
  refine lv_aload_n hx hb dX10_get_0 rfl (lv_at hl 0 rfl) ?_
  refine gX_10_0 hx hb ht hown hK hP m_111 dX10_get_1 ?_
  refine lv_iload_n hx hb dX10_get_4 rfl (lv_at hl 1 rfl) ?_
  refine lv_bipush (v := 9) hx hb dX10_get_5 (by decide) ?_
  refine lv_imul hx hb dX10_get_7 ?_
  refine lv_topi (fun v1 ev1 => ?_)
  have tv1 := z_mul ev1 (rfl : (a).toInt = _) (by decide : (9 : Int32).toInt = 9) (by omega) (by omega)
  refine lv_iload_n hx hb dX10_get_8 rfl (lv_at hl 2 rfl) ?_
  refine lv_iadd hx hb dX10_get_9 ?_
  refine lv_topi (fun v2 ev2 => ?_)
  have tv2 := z_add ev2 (rfl : (v1).toInt = _) (by decide : (2 : Int32).toInt = 2) (by omega) (by omega)
  refine lX_10_0 hx hb hK hP (f := (fa 10 0)) rfl (vp_in_iff.mpr ⟨by omega, by omega⟩) dX10_get_10 ?_
  refine lv_topi (fun v3 ev3 => ?_)
  exact W.iret (v := v3) hx hb hr (fun t ht9 hW => ⟨v3, rfl, ⟨trivial, (show (v3 : Int32).toInt = ((fa 10 0) (9 * ((a).toInt).toNat + 2)).toInt from (by have h1 := congrArg Int32.toInt ev3; have h2 : (v2 : Int32).toNatClampNeg = 9 * (a.toInt).toNat + 2 := (by show (v2 : Int32).toInt.toNat = _; omega); rw [h2] at h1; exact h1))⟩, ht9⟩) (fun q hq => by cases hq) dX10_get_11
set_option maxHeartbeats 4000000 in
set_option maxRecDepth 100000 in
/-- X11_errors -/
theorem c_X11_errors_w0 (l : Launch) (dC : Nat → ClassId) (dI : Nat → Nat → Nat) (h : Nat) (g : Nat → Nat → Nat) (ca : Nat → Nat → ClassId) (iv : Nat → Nat → Int32) (lv : Nat → Nat → Int64) (fa : Nat → Nat → Nat → Int32) (la : Nat → Nat → Nat → Int64) (hI : IX iv fa) (a : Int32) : Met l yX11_errors (wc yX11_errors cX11_errors 8 (some .int)) ({ frames := 2, cells := 0, slots := 0, locals := 64 } : Room) (pR (dC, dI) classes (WX h g ca iv lv fa la) (TX ca) [.ref h, .int a, .int 0]) (vp_Si (fun r => (True) ∧ (r.toInt = smI (cxP (fa 10 0) a.toInt (iv 11 10).toInt 0) (fun s : Nat => cl40 (er0 (fa 9 2) (tLa (fa 9 0) (fa 9 1) ((fa 10 0) (9 * s + 2)) ((fa 10 0) (9 * s + 7)) ((iv 9 3).toInt).toNat) (tFi (fa 9 0) (fa 9 1) ((fa 10 0) (9 * s + 2)) ((fa 10 0) (9 * s + 7)) ((iv 9 3).toInt).toNat))) ((iv 10 1).toInt).toNat))) 0 0 (fun _ => False) := by
  refine Met.ofW (cc := cX11_errors) (maxL := 8) (ret := (some .int)) (by decide) rfl ?_
  intro p e s m args below meth c s₁ B hml hv
  obtain ⟨rfl, hP, hK⟩ := hv
  have hx := B.exec
  have hb := B.bytes
  have hr := B.returns
  have ht := tb_tl (atoms_spec (ws := wc yX11_errors cX11_errors 8 (some .int)) B.pre)
  have hown : s.vm.findClass RX11 = some m.cls := findClass_of_methodNamed B.named
  have hlocks := B.notSynchronized
  have hl := lv_entry [.ref h, .int a, .int 0] (n := 8) (Nat.le_of_ble_eq_true rfl)
  rw [lg_entry_eq]
  generalize (lg_sl [.ref h, .int a, .int 0] ++ List.replicate (8 - (lg_sl [.ref h, .int a, .int 0]).length) Slot.unset).toArray = ls at hl ⊢
  have hl : lv_has ls 8 [(0, .ref h), (1, .int a), (2, .int 0)] := hl
  refine lv_iconst (v := 0) hx hb dX11_errors_0 (by decide) ?_
  refine lv_istore_n (lv' := [(3, .int 0), (0, .ref h), (1, .int a), (2, .int 0)]) hx hb dX11_errors_1 rfl hl (by decide) rfl (fun ls hl => ?_)
  refine lv_iconst (v := 0) hx hb dX11_errors_2 (by decide) ?_
  refine lv_istore (lv' := [(4, .int 0), (3, .int 0), (0, .ref h), (1, .int a), (2, .int 0)]) hx hb dX11_errors_3 hl (by decide) rfl (fun ls hl => ?_)
  have i_11_10 : 0 ≤ (iv 11 10).toInt ∧ (iv 11 10).toInt ≤ 3000 := hI.1 11 10
  have i_9_3 : 0 ≤ (iv 9 3).toInt ∧ (iv 9 3).toInt ≤ 30 := hI.1 9 3
  have i_10_1 : 0 ≤ (iv 10 1).toInt ∧ (iv 10 1).toInt ≤ 60 := hI.1 10 1
  have lp354 : ∀ (nn354 : Nat) (x353_4 : Int32) (x353_3 : Int32), 0 ≤ x353_4.toInt ∧ x353_4.toInt ≤ 60 → ((x353_3 : Int32).toInt = smI (cxP (fa 10 0) (a).toInt ((iv 11 10) : Int32).toInt 0) (fun s : Nat => cl40 (er0 (fa 9 2) (tLa (fa 9 0) (fa 9 1) ((fa 10 0) (9 * s + 2)) ((fa 10 0) (9 * s + 7)) (((iv 9 3) : Int32).toInt).toNat) (tFi (fa 9 0) (fa 9 1) ((fa 10 0) (9 * s + 2)) ((fa 10 0) (9 * s + 7)) (((iv 9 3) : Int32).toInt).toNat))) ((x353_4 : Int32).toInt).toNat) → (x353_4 : Int32).toInt ≤ ((iv 10 1) : Int32).toInt → 60 - x353_4.toInt < (nn354 : Int) → ∀ (ls : Array Slot), lv_has ls 8 [(4, .int x353_4), (3, .int x353_3), (0, .ref h), (1, .int a), (2, .int 0)] → W p l e ({ frames := 2, cells := 0, slots := 0, locals := 64 } : Room) s m ([.ref h, .int a, .int 0] : List Value).toArray below meth c s.heap [] 0 0 (MQ below (vp_Si (fun r => (True) ∧ (r.toInt = smI (cxP (fa 10 0) a.toInt (iv 11 10).toInt 0) (fun s : Nat => cl40 (er0 (fa 9 2) (tLa (fa 9 0) (fa 9 1) ((fa 10 0) (9 * s + 2)) ((fa 10 0) (9 * s + 7)) ((iv 9 3).toInt).toNat) (tFi (fa 9 0) (fa 9 1) ((fa 10 0) (9 * s + 2)) ((fa 10 0) (9 * s + 7)) ((iv 9 3).toInt).toNat))) ((iv 10 1).toInt).toNat))) ([.ref h, .int a, .int 0] : List Value).toArray s 0 0 (fun _ => False)) (F0 m 5 ls []) := by
    intro nn354
    induction nn354 with
    | zero => intro x353_4 x353_3 hx353_4 hq354_0 hq354_1 hm354; exfalso; omega
    | succ nn354 ih354 =>
      intro x353_4 x353_3 hx353_4 hq354_0 hq354_1 hm354 ls hl
      refine lv_iload hx hb dX11_errors_5 (lv_at hl 0 rfl) ?_
      refine lv_aload_n hx hb dX11_errors_7 rfl (lv_at hl 2 rfl) ?_
      refine gX_11_0 hx hb ht hown hK hP m_415 dX11_errors_8 ?_
      refine gX_10_1 hx hb ht hown hK hP m_114 (v := (iv 10 1)) rfl dX11_errors_11 ?_
      refine lv_icmp_ge (tgt := 124) hx hb dX11_errors_14 (by decide) (fun c355 => ?_) (fun c355 => ?_)
      · have fc355 := z_le (rfl : ((iv 10 1)).toInt = _) (rfl : (x353_4).toInt = _) c355
        refine lv_iload_n hx hb dX11_errors_124 rfl (lv_at hl 1 rfl) ?_
        exact W.iret (v := x353_3) hx hb hr (fun t ht9 hW => ⟨x353_3, rfl, ⟨trivial, (show (x353_3 : Int32).toInt = smI (cxP (fa 10 0) (a).toInt ((iv 11 10) : Int32).toInt 0) (fun s : Nat => cl40 (er0 (fa 9 2) (tLa (fa 9 0) (fa 9 1) ((fa 10 0) (9 * s + 2)) ((fa 10 0) (9 * s + 7)) (((iv 9 3) : Int32).toInt).toNat) (tFi (fa 9 0) (fa 9 1) ((fa 10 0) (9 * s + 2)) ((fa 10 0) (9 * s + 7)) (((iv 9 3) : Int32).toInt).toNat))) (((iv 10 1) : Int32).toInt).toNat from (by have hq9 := hq354_0; have he9 : (x353_4 : Int32).toInt = (iv 10 1).toInt := (by omega); rw [he9] at hq9; exact hq9))⟩, ht9⟩) (fun q hq => by cases hq) dX11_errors_125
      · have fc355 := z_nle (rfl : ((iv 10 1)).toInt = _) (rfl : (x353_4).toInt = _) c355
        refine lv_aload_n hx hb dX11_errors_17 rfl (lv_at hl 2 rfl) ?_
        refine gX_11_0 hx hb ht hown hK hP m_415 dX11_errors_18 ?_
        refine lv_iload hx hb dX11_errors_21 (lv_at hl 0 rfl) ?_
        refine lv_iload_n hx hb dX11_errors_23 rfl (lv_at hl 3 rfl) ?_
        refine lv_iconst (v := 0) hx hb dX11_errors_24 (by decide) ?_
        refine vp_callSi (W.runV (As := [.int x353_4, .int a, .int 0]) (rest := []) ⟨hx, hb, hml, hown, ht⟩ (c_X10_isOf_x l dC dI h g ca iv lv fa la hI x353_4 a 0 ⟨by omega, by omega⟩) (kV 3 ht m_862 m_482 m_483 m_78 m_484 rfl rfl hd_X10_isOf_v ⟨Nat.le_of_ble_eq_true rfl, Nat.le_of_ble_eq_true rfl⟩) (vR hP hK (rX_10 hK hP)) rfl rfl hl.1 rfl (lv_room (Nat.le_of_ble_eq_true rfl)) dX11_errors_25 ⟨Nat.le_of_ble_eq_true rfl, Nat.le_of_ble_eq_true rfl⟩) (fun r356 hr356 => ?_)
        obtain ⟨hr356, xr356_0⟩ := hr356
        have : (0 : Int32).toInt = 0 := (by decide)
        have xr356_0 : (((r356 : Int32).toInt = 1 ∧ ((fa 10 0) (9 * ((x353_4 : Int32).toInt).toNat + 0)).toInt = (a : Int32).toInt ∧ ((fa 10 0) (9 * ((x353_4 : Int32).toInt).toNat + 1)).toInt = (0 : Int32).toInt) ∨ ((r356 : Int32).toInt = 0 ∧ ¬ (((fa 10 0) (9 * ((x353_4 : Int32).toInt).toNat + 0)).toInt = (a : Int32).toInt ∧ ((fa 10 0) (9 * ((x353_4 : Int32).toInt).toNat + 1)).toInt = (0 : Int32).toInt))) := xr356_0
        refine lv_if_eq (tgt := 118) hx hb dX11_errors_28 (by decide) (fun c357 => ?_) (fun c357 => ?_)
        · have fc357 := z_eq (rfl : (r356).toInt = _) (by decide : (0 : Int32).toInt = 0) c357
          obtain ⟨v358, ev358⟩ : ∃ y : Int32, y = x353_4 + 1 := ⟨_, rfl⟩
          have tv358 := z_add ev358 rfl (by decide : (1 : Int32).toInt = 1) (by omega) (by omega)
          refine lv_iinc (v := v358) (lv' := [(4, .int v358), (3, .int x353_3), (0, .ref h), (1, .int a), (2, .int 0)]) hx hb dX11_errors_118 hl (k := 0) rfl (by rw [ev358]; rfl) (by decide) rfl (fun ls hl => ?_)
          refine lv_goto (tgt := 5) hx hb dX11_errors_121 (by decide) ?_
          exact ih354 v358 x353_3 ⟨by omega, by omega⟩ (show (x353_3 : Int32).toInt = smI (cxP (fa 10 0) (a).toInt ((iv 11 10) : Int32).toInt 0) (fun s : Nat => cl40 (er0 (fa 9 2) (tLa (fa 9 0) (fa 9 1) ((fa 10 0) (9 * s + 2)) ((fa 10 0) (9 * s + 7)) (((iv 9 3) : Int32).toInt).toNat) (tFi (fa 9 0) (fa 9 1) ((fa 10 0) (9 * s + 2)) ((fa 10 0) (9 * s + 7)) (((iv 9 3) : Int32).toInt).toNat))) ((v358 : Int32).toInt).toNat from (by
                have hs9 : ((v358 : Int32).toInt).toNat = ((x353_4 : Int32).toInt).toNat + 1 := by omega
                have hq9 := hq354_0
                have y9_0 := xr356_0
                rw [smI_n hs9 (show ¬ (((fa 10 0) (9 * ((x353_4 : Int32).toInt).toNat + 0)).toInt = a.toInt ∧ ((fa 10 0) (9 * ((x353_4 : Int32).toInt).toNat + 1)).toInt = 0 ∧ ((fa 10 0) (9 * ((x353_4 : Int32).toInt).toNat + 7)).toInt ≤ (iv 11 10).toInt ∧ (((fa 10 0) (9 * ((x353_4 : Int32).toInt).toNat + 8)).toInt = -1 ∨ (iv 11 10).toInt < ((fa 10 0) (9 * ((x353_4 : Int32).toInt).toNat + 8)).toInt)) from by omega)]; exact hq9)) (show (v358 : Int32).toInt ≤ ((iv 10 1) : Int32).toInt from by omega) (by omega) ls (lv_sub hl [0, 1, 2, 3, 4] rfl)
        · have fc357 := z_ne (rfl : (r356).toInt = _) (by decide : (0 : Int32).toInt = 0) c357
          refine lv_aload_n hx hb dX11_errors_31 rfl (lv_at hl 2 rfl) ?_
          refine gX_11_0 hx hb ht hown hK hP m_415 dX11_errors_32 ?_
          refine lv_iload hx hb dX11_errors_35 (lv_at hl 0 rfl) ?_
          refine lv_aload_n hx hb dX11_errors_37 rfl (lv_at hl 2 rfl) ?_
          refine gX_11_10 hx hb ht hown hK hP m_425 (v := (iv 11 10)) rfl dX11_errors_38 ?_
          refine vp_callSi (W.runV (As := [.int x353_4, .int (iv 11 10)]) (rest := []) ⟨hx, hb, hml, hown, ht⟩ (c_X10_counts_x l dC dI h g ca iv lv fa la hI x353_4 (iv 11 10) ⟨by omega, by omega⟩) (kV 2 ht m_863 m_574 m_575 m_78 m_576 rfl rfl hd_X10_counts_v ⟨Nat.le_of_ble_eq_true rfl, Nat.le_of_ble_eq_true rfl⟩) (vR hP hK (rX_10 hK hP)) rfl rfl hl.1 rfl (lv_room (Nat.le_of_ble_eq_true rfl)) dX11_errors_41 ⟨Nat.le_of_ble_eq_true rfl, Nat.le_of_ble_eq_true rfl⟩) (fun r359 hr359 => ?_)
          obtain ⟨hr359, xr359_0⟩ := hr359
          have xr359_0 : (((r359 : Int32).toInt = 1 ∧ ((fa 10 0) (9 * ((x353_4 : Int32).toInt).toNat + 7)).toInt ≤ ((iv 11 10) : Int32).toInt ∧ (((fa 10 0) (9 * ((x353_4 : Int32).toInt).toNat + 8)).toInt = -1 ∨ ((iv 11 10) : Int32).toInt < ((fa 10 0) (9 * ((x353_4 : Int32).toInt).toNat + 8)).toInt)) ∨ ((r359 : Int32).toInt = 0 ∧ ¬ (((fa 10 0) (9 * ((x353_4 : Int32).toInt).toNat + 7)).toInt ≤ ((iv 11 10) : Int32).toInt ∧ (((fa 10 0) (9 * ((x353_4 : Int32).toInt).toNat + 8)).toInt = -1 ∨ ((iv 11 10) : Int32).toInt < ((fa 10 0) (9 * ((x353_4 : Int32).toInt).toNat + 8)).toInt)))) := xr359_0
          refine lv_if_eq (tgt := 118) hx hb dX11_errors_44 (by decide) (fun c360 => ?_) (fun c360 => ?_)
          · have fc360 := z_eq (rfl : (r359).toInt = _) (by decide : (0 : Int32).toInt = 0) c360
            obtain ⟨v361, ev361⟩ : ∃ y : Int32, y = x353_4 + 1 := ⟨_, rfl⟩
            have tv361 := z_add ev361 rfl (by decide : (1 : Int32).toInt = 1) (by omega) (by omega)
            refine lv_iinc (v := v361) (lv' := [(4, .int v361), (3, .int x353_3), (0, .ref h), (1, .int a), (2, .int 0)]) hx hb dX11_errors_118 hl (k := 0) rfl (by rw [ev361]; rfl) (by decide) rfl (fun ls hl => ?_)
            refine lv_goto (tgt := 5) hx hb dX11_errors_121 (by decide) ?_
            exact ih354 v361 x353_3 ⟨by omega, by omega⟩ (show (x353_3 : Int32).toInt = smI (cxP (fa 10 0) (a).toInt ((iv 11 10) : Int32).toInt 0) (fun s : Nat => cl40 (er0 (fa 9 2) (tLa (fa 9 0) (fa 9 1) ((fa 10 0) (9 * s + 2)) ((fa 10 0) (9 * s + 7)) (((iv 9 3) : Int32).toInt).toNat) (tFi (fa 9 0) (fa 9 1) ((fa 10 0) (9 * s + 2)) ((fa 10 0) (9 * s + 7)) (((iv 9 3) : Int32).toInt).toNat))) ((v361 : Int32).toInt).toNat from (by
                  have hs9 : ((v361 : Int32).toInt).toNat = ((x353_4 : Int32).toInt).toNat + 1 := by omega
                  have hq9 := hq354_0
                  have y9_0 := xr356_0
                  have y9_1 := xr359_0
                  rw [smI_n hs9 (show ¬ (((fa 10 0) (9 * ((x353_4 : Int32).toInt).toNat + 0)).toInt = a.toInt ∧ ((fa 10 0) (9 * ((x353_4 : Int32).toInt).toNat + 1)).toInt = 0 ∧ ((fa 10 0) (9 * ((x353_4 : Int32).toInt).toNat + 7)).toInt ≤ (iv 11 10).toInt ∧ (((fa 10 0) (9 * ((x353_4 : Int32).toInt).toNat + 8)).toInt = -1 ∨ (iv 11 10).toInt < ((fa 10 0) (9 * ((x353_4 : Int32).toInt).toNat + 8)).toInt)) from by omega)]; exact hq9)) (show (v361 : Int32).toInt ≤ ((iv 10 1) : Int32).toInt from by omega) (by omega) ls (lv_sub hl [0, 1, 2, 3, 4] rfl)
          · have fc360 := z_ne (rfl : (r359).toInt = _) (by decide : (0 : Int32).toInt = 0) c360
            refine lv_aload_n hx hb dX11_errors_47 rfl (lv_at hl 2 rfl) ?_
            refine gX_11_0 hx hb ht hown hK hP m_415 dX11_errors_48 ?_
            refine lv_iload hx hb dX11_errors_51 (lv_at hl 0 rfl) ?_
            refine lv_iconst (v := 2) hx hb dX11_errors_53 (by decide) ?_
            refine vp_callSi (W.runV (As := [.int x353_4, .int 2]) (rest := []) ⟨hx, hb, hml, hown, ht⟩ (c_X10_get_x2 l dC dI h g ca iv lv fa la hI x353_4 ⟨by omega, by omega⟩) (kV 2 ht m_513 m_486 m_487 m_78 m_488 rfl rfl hd_X10_get_v ⟨Nat.le_of_ble_eq_true rfl, Nat.le_of_ble_eq_true rfl⟩) (vR hP hK (rX_10 hK hP)) rfl rfl hl.1 rfl (lv_room (Nat.le_of_ble_eq_true rfl)) dX11_errors_54 ⟨Nat.le_of_ble_eq_true rfl, Nat.le_of_ble_eq_true rfl⟩) (fun r362 hr362 => ?_)
            obtain ⟨hr362, xr362_0⟩ := hr362
            have xr362_0 : (r362 : Int32).toInt = ((fa 10 0) (9 * ((x353_4 : Int32).toInt).toNat + 2)).toInt := xr362_0
            refine lv_istore (lv' := [(5, .int r362), (4, .int x353_4), (3, .int x353_3), (0, .ref h), (1, .int a), (2, .int 0)]) hx hb dX11_errors_57 hl (by decide) rfl (fun ls hl => ?_)
            refine lv_aload_n hx hb dX11_errors_59 rfl (lv_at hl 3 rfl) ?_
            refine gX_11_0 hx hb ht hown hK hP m_415 dX11_errors_60 ?_
            refine lv_iload hx hb dX11_errors_63 (lv_at hl 1 rfl) ?_
            refine lv_bipush (v := 7) hx hb dX11_errors_65 (by decide) ?_
            refine vp_callSi (W.runV (As := [.int x353_4, .int 7]) (rest := []) ⟨hx, hb, hml, hown, ht⟩ (c_X10_get_x7 l dC dI h g ca iv lv fa la hI x353_4 ⟨by omega, by omega⟩) (kV 2 ht m_513 m_486 m_487 m_78 m_488 rfl rfl hd_X10_get_v ⟨Nat.le_of_ble_eq_true rfl, Nat.le_of_ble_eq_true rfl⟩) (vR hP hK (rX_10 hK hP)) rfl rfl hl.1 rfl (lv_room (Nat.le_of_ble_eq_true rfl)) dX11_errors_67 ⟨Nat.le_of_ble_eq_true rfl, Nat.le_of_ble_eq_true rfl⟩) (fun r363 hr363 => ?_)
            obtain ⟨hr363, xr363_0⟩ := hr363
            have xr363_0 : (r363 : Int32).toInt = ((fa 10 0) (9 * ((x353_4 : Int32).toInt).toNat + 7)).toInt := xr363_0
            refine lv_istore (lv' := [(6, .int r363), (5, .int r362), (4, .int x353_4), (3, .int x353_3), (0, .ref h), (1, .int a), (2, .int 0)]) hx hb dX11_errors_70 hl (by decide) rfl (fun ls hl => ?_)
            refine lv_iload_n hx hb dX11_errors_72 rfl (lv_at hl 6 rfl) ?_
            refine lv_if_eq (tgt := 90) hx hb dX11_errors_73 (by decide) (fun c364 => ?_) (fun c364 => ?_)
            · skip
              refine lv_aload_n hx hb dX11_errors_90 rfl (lv_at hl 4 rfl) ?_
              refine gX_11_1 hx hb ht hown hK hP m_416 dX11_errors_91 ?_
              refine lv_iload hx hb dX11_errors_94 (lv_at hl 1 rfl) ?_
              refine lv_iload hx hb dX11_errors_96 (lv_at hl 0 rfl) ?_
              refine vp_callSi (W.runV (As := [.int r362, .int r363]) (rest := []) ⟨hx, hb, hml, hown, ht⟩ (c_X9_least_x l dC dI h g ca iv lv fa la hI r362 r363) (kV 2 ht m_534 m_535 m_536 m_79 m_537 rfl rfl hd_X9_least_v ⟨Nat.le_of_ble_eq_true rfl, Nat.le_of_ble_eq_true rfl⟩) (vR hP hK (rX_9 hK hP)) rfl rfl hl.1 rfl (lv_room (Nat.le_of_ble_eq_true rfl)) dX11_errors_98 ⟨Nat.le_of_ble_eq_true rfl, Nat.le_of_ble_eq_true rfl⟩) (fun r365 hr365 => ?_)
              obtain ⟨hr365, xr365_0⟩ := hr365
              have xr365_0 : (r365 : Int32).toInt = er0 (fa 9 2) (tLa (fa 9 0) (fa 9 1) (r362 : Int32) (r363 : Int32) (((iv 9 3) : Int32).toInt).toNat) (tFi (fa 9 0) (fa 9 1) (r362 : Int32) (r363 : Int32) (((iv 9 3) : Int32).toInt).toNat) := xr365_0
              refine lv_istore (lv' := [(7, .int r365), (6, .int r363), (5, .int r362), (4, .int x353_4), (3, .int x353_3), (0, .ref h), (1, .int a), (2, .int 0)]) hx hb dX11_errors_101 hl (by decide) rfl (fun ls hl => ?_)
              refine lv_iload_n hx hb dX11_errors_103 rfl (lv_at hl 4 rfl) ?_
              refine lv_bipush (v := (-40)) hx hb dX11_errors_104 (by decide) ?_
              refine lv_bipush (v := 40) hx hb dX11_errors_106 (by decide) ?_
              refine lv_iload hx hb dX11_errors_108 (lv_at hl 0 rfl) ?_
              refine va_mmin hx hb (hml.trans hl.1.symm) hown (ht _ m_864) (ht _ m_551) (ht _ m_90) (ht _ m_552) (Nat.le_of_ble_eq_true rfl) (Nat.le_of_ble_eq_true rfl) (Nat.le_of_ble_eq_true rfl) (Nat.le_of_ble_eq_true rfl) dX11_errors_110 ?_
              refine lv_topi (fun v366 ev366 => ?_)
              have tv366 := mm_or ev366
              rw [show (40 : Int32).toInt = 40 from by decide] at tv366
              have uv366 := mm_min ev366 (by decide : (40 : Int32).toInt = 40) (rfl : (r365).toInt = _)
              refine va_mmax hx hb (hml.trans hl.1.symm) hown (ht _ m_865) (ht _ m_558) (ht _ m_90) (ht _ m_559) (Nat.le_of_ble_eq_true rfl) (Nat.le_of_ble_eq_true rfl) (Nat.le_of_ble_eq_true rfl) (Nat.le_of_ble_eq_true rfl) dX11_errors_113 ?_
              refine lv_topi (fun v367 ev367 => ?_)
              have tv367 := mm_or ev367
              rw [show ((-40) : Int32).toInt = (-40) from by decide] at tv367
              have uv367 := mm_max ev367 (by decide : ((-40) : Int32).toInt = (-40)) (rfl : (v366).toInt = _)
              refine lv_iadd hx hb dX11_errors_116 ?_
              refine lv_topi (fun v368 ev368 => ?_)
              refine lv_istore_n (lv' := [(3, .int v368), (7, .int r365), (6, .int r363), (5, .int r362), (4, .int x353_4), (0, .ref h), (1, .int a), (2, .int 0)]) hx hb dX11_errors_117 rfl hl (by decide) rfl (fun ls hl => ?_)
              obtain ⟨v369, ev369⟩ : ∃ y : Int32, y = x353_4 + 1 := ⟨_, rfl⟩
              have tv369 := z_add ev369 rfl (by decide : (1 : Int32).toInt = 1) (by omega) (by omega)
              refine lv_iinc (v := v369) (lv' := [(4, .int v369), (3, .int v368), (7, .int r365), (6, .int r363), (5, .int r362), (0, .ref h), (1, .int a), (2, .int 0)]) hx hb dX11_errors_118 hl (k := 4) rfl (by rw [ev369]; rfl) (by decide) rfl (fun ls hl => ?_)
              refine lv_goto (tgt := 5) hx hb dX11_errors_121 (by decide) ?_
              exact ih354 v369 v368 ⟨by omega, by omega⟩ (show (v368 : Int32).toInt = smI (cxP (fa 10 0) (a).toInt ((iv 11 10) : Int32).toInt 0) (fun s : Nat => cl40 (er0 (fa 9 2) (tLa (fa 9 0) (fa 9 1) ((fa 10 0) (9 * s + 2)) ((fa 10 0) (9 * s + 7)) (((iv 9 3) : Int32).toInt).toNat) (tFi (fa 9 0) (fa 9 1) ((fa 10 0) (9 * s + 2)) ((fa 10 0) (9 * s + 7)) (((iv 9 3) : Int32).toInt).toNat))) ((v369 : Int32).toInt).toNat from (by
                    have hs9 : ((v369 : Int32).toInt).toNat = ((x353_4 : Int32).toInt).toNat + 1 := by omega
                    have hq9 := hq354_0
                    have y9_0 := xr356_0
                    have y9_1 := xr359_0
                    have ha9 : r362 = fa 10 0 (9 * ((x353_4 : Int32).toInt).toNat + 2) := Int32.toInt_inj.mp xr362_0
                    have hb9 : r363 = fa 10 0 (9 * ((x353_4 : Int32).toInt).toNat + 7) := Int32.toInt_inj.mp xr363_0
                    have he9 := xr365_0
                    rw [ha9, hb9] at he9
                    have hv9 : (v367 : Int32).toInt = cl40 (r365 : Int32).toInt := by
                      unfold cl40
                      split
                      · omega
                      · split <;> omega
                    rw [he9] at hv9
                    have hl9 := smI_b (c := cxP (fa 10 0) a.toInt (iv 11 10).toInt 0) (f := (fun s : Nat => cl40 (er0 (fa 9 2) (tLa (fa 9 0) (fa 9 1) ((fa 10 0) (9 * s + 2)) ((fa 10 0) (9 * s + 7)) ((iv 9 3).toInt).toNat) (tFi (fa 9 0) (fa 9 1) ((fa 10 0) (9 * s + 2)) ((fa 10 0) (9 * s + 7)) ((iv 9 3).toInt).toNat)))) (fun j => cl40_b _) ((x353_4 : Int32).toInt).toNat (by omega)
                    rw [← hq9] at hl9
                    have hp9 := z_add ev368 rfl rfl (by omega) (by omega)
                    rw [smI_y hs9 (show (((fa 10 0) (9 * ((x353_4 : Int32).toInt).toNat + 0)).toInt = a.toInt ∧ ((fa 10 0) (9 * ((x353_4 : Int32).toInt).toNat + 1)).toInt = 0 ∧ ((fa 10 0) (9 * ((x353_4 : Int32).toInt).toNat + 7)).toInt ≤ (iv 11 10).toInt ∧ (((fa 10 0) (9 * ((x353_4 : Int32).toInt).toNat + 8)).toInt = -1 ∨ (iv 11 10).toInt < ((fa 10 0) (9 * ((x353_4 : Int32).toInt).toNat + 8)).toInt)) from ⟨by omega, by omega, by omega, by omega⟩), ← hq9, hp9, hv9])) (show (v369 : Int32).toInt ≤ ((iv 10 1) : Int32).toInt from by omega) (by omega) ls (lv_sub hl [0, 1, 5, 6, 7] rfl)
            · exact absurd rfl c364
  have : (0 : Int32).toInt = 0 := (by decide)
  have i_11_10 : 0 ≤ (iv 11 10).toInt ∧ (iv 11 10).toInt ≤ 3000 := hI.1 11 10
  have i_9_3 : 0 ≤ (iv 9 3).toInt ∧ (iv 9 3).toInt ≤ 30 := hI.1 9 3
  have i_10_1 : 0 ≤ (iv 10 1).toInt ∧ (iv 10 1).toInt ≤ 60 := hI.1 10 1
  exact lp354 61 0 0 ⟨by decide, by decide⟩ (show (0 : Int32).toInt = smI (cxP (fa 10 0) (a).toInt ((iv 11 10) : Int32).toInt 0) (fun s : Nat => cl40 (er0 (fa 9 2) (tLa (fa 9 0) (fa 9 1) ((fa 10 0) (9 * s + 2)) ((fa 10 0) (9 * s + 7)) (((iv 9 3) : Int32).toInt).toNat) (tFi (fa 9 0) (fa 9 1) ((fa 10 0) (9 * s + 2)) ((fa 10 0) (9 * s + 7)) (((iv 9 3) : Int32).toInt).toNat))) ((0 : Int32).toInt).toNat from (by have hz : ((0 : Int32).toInt).toNat = 0 := (by decide); rw [hz]; exact (by decide : (0 : Int32).toInt = 0))) (show (0 : Int32).toInt ≤ ((iv 10 1) : Int32).toInt from by omega) (by first | decide | omega) ls (lv_sub hl [0, 1, 2, 3, 4] rfl)
set_option maxHeartbeats 4000000 in
set_option maxRecDepth 100000 in
/-- X11_errors -/
theorem c_X11_errors_w1 (l : Launch) (dC : Nat → ClassId) (dI : Nat → Nat → Nat) (h : Nat) (g : Nat → Nat → Nat) (ca : Nat → Nat → ClassId) (iv : Nat → Nat → Int32) (lv : Nat → Nat → Int64) (fa : Nat → Nat → Nat → Int32) (la : Nat → Nat → Nat → Int64) (hI : IX iv fa) (a : Int32) : Met l yX11_errors (wc yX11_errors cX11_errors 8 (some .int)) ({ frames := 2, cells := 0, slots := 0, locals := 64 } : Room) (pR (dC, dI) classes (WX h g ca iv lv fa la) (TX ca) [.ref h, .int a, .int 1]) (vp_Si (fun r => (True) ∧ (r.toInt = smI (cxP (fa 10 0) a.toInt (iv 11 10).toInt 0) (fun s : Nat => cl40 (er1 (fa 9 2) (tLa (fa 9 0) (fa 9 1) ((fa 10 0) (9 * s + 2)) ((fa 10 0) (9 * s + 7)) ((iv 9 3).toInt).toNat) (tFi (fa 9 0) (fa 9 1) ((fa 10 0) (9 * s + 2)) ((fa 10 0) (9 * s + 7)) ((iv 9 3).toInt).toNat))) ((iv 10 1).toInt).toNat))) 0 0 (fun _ => False) := by
  refine Met.ofW (cc := cX11_errors) (maxL := 8) (ret := (some .int)) (by decide) rfl ?_
  intro p e s m args below meth c s₁ B hml hv
  obtain ⟨rfl, hP, hK⟩ := hv
  have hx := B.exec
  have hb := B.bytes
  have hr := B.returns
  have ht := tb_tl (atoms_spec (ws := wc yX11_errors cX11_errors 8 (some .int)) B.pre)
  have hown : s.vm.findClass RX11 = some m.cls := findClass_of_methodNamed B.named
  have hlocks := B.notSynchronized
  have hl := lv_entry [.ref h, .int a, .int 1] (n := 8) (Nat.le_of_ble_eq_true rfl)
  rw [lg_entry_eq]
  generalize (lg_sl [.ref h, .int a, .int 1] ++ List.replicate (8 - (lg_sl [.ref h, .int a, .int 1]).length) Slot.unset).toArray = ls at hl ⊢
  have hl : lv_has ls 8 [(0, .ref h), (1, .int a), (2, .int 1)] := hl
  refine lv_iconst (v := 0) hx hb dX11_errors_0 (by decide) ?_
  refine lv_istore_n (lv' := [(3, .int 0), (0, .ref h), (1, .int a), (2, .int 1)]) hx hb dX11_errors_1 rfl hl (by decide) rfl (fun ls hl => ?_)
  refine lv_iconst (v := 0) hx hb dX11_errors_2 (by decide) ?_
  refine lv_istore (lv' := [(4, .int 0), (3, .int 0), (0, .ref h), (1, .int a), (2, .int 1)]) hx hb dX11_errors_3 hl (by decide) rfl (fun ls hl => ?_)
  have i_11_10 : 0 ≤ (iv 11 10).toInt ∧ (iv 11 10).toInt ≤ 3000 := hI.1 11 10
  have i_9_3 : 0 ≤ (iv 9 3).toInt ∧ (iv 9 3).toInt ≤ 30 := hI.1 9 3
  have i_10_1 : 0 ≤ (iv 10 1).toInt ∧ (iv 10 1).toInt ≤ 60 := hI.1 10 1
  have lp354 : ∀ (nn354 : Nat) (x353_4 : Int32) (x353_3 : Int32), 0 ≤ x353_4.toInt ∧ x353_4.toInt ≤ 60 → ((x353_3 : Int32).toInt = smI (cxP (fa 10 0) (a).toInt ((iv 11 10) : Int32).toInt 0) (fun s : Nat => cl40 (er1 (fa 9 2) (tLa (fa 9 0) (fa 9 1) ((fa 10 0) (9 * s + 2)) ((fa 10 0) (9 * s + 7)) (((iv 9 3) : Int32).toInt).toNat) (tFi (fa 9 0) (fa 9 1) ((fa 10 0) (9 * s + 2)) ((fa 10 0) (9 * s + 7)) (((iv 9 3) : Int32).toInt).toNat))) ((x353_4 : Int32).toInt).toNat) → (x353_4 : Int32).toInt ≤ ((iv 10 1) : Int32).toInt → 60 - x353_4.toInt < (nn354 : Int) → ∀ (ls : Array Slot), lv_has ls 8 [(4, .int x353_4), (3, .int x353_3), (0, .ref h), (1, .int a), (2, .int 1)] → W p l e ({ frames := 2, cells := 0, slots := 0, locals := 64 } : Room) s m ([.ref h, .int a, .int 1] : List Value).toArray below meth c s.heap [] 0 0 (MQ below (vp_Si (fun r => (True) ∧ (r.toInt = smI (cxP (fa 10 0) a.toInt (iv 11 10).toInt 0) (fun s : Nat => cl40 (er1 (fa 9 2) (tLa (fa 9 0) (fa 9 1) ((fa 10 0) (9 * s + 2)) ((fa 10 0) (9 * s + 7)) ((iv 9 3).toInt).toNat) (tFi (fa 9 0) (fa 9 1) ((fa 10 0) (9 * s + 2)) ((fa 10 0) (9 * s + 7)) ((iv 9 3).toInt).toNat))) ((iv 10 1).toInt).toNat))) ([.ref h, .int a, .int 1] : List Value).toArray s 0 0 (fun _ => False)) (F0 m 5 ls []) := by
    intro nn354
    induction nn354 with
    | zero => intro x353_4 x353_3 hx353_4 hq354_0 hq354_1 hm354; exfalso; omega
    | succ nn354 ih354 =>
      intro x353_4 x353_3 hx353_4 hq354_0 hq354_1 hm354 ls hl
      refine lv_iload hx hb dX11_errors_5 (lv_at hl 0 rfl) ?_
      refine lv_aload_n hx hb dX11_errors_7 rfl (lv_at hl 2 rfl) ?_
      refine gX_11_0 hx hb ht hown hK hP m_415 dX11_errors_8 ?_
      refine gX_10_1 hx hb ht hown hK hP m_114 (v := (iv 10 1)) rfl dX11_errors_11 ?_
      refine lv_icmp_ge (tgt := 124) hx hb dX11_errors_14 (by decide) (fun c355 => ?_) (fun c355 => ?_)
      · have fc355 := z_le (rfl : ((iv 10 1)).toInt = _) (rfl : (x353_4).toInt = _) c355
        refine lv_iload_n hx hb dX11_errors_124 rfl (lv_at hl 1 rfl) ?_
        exact W.iret (v := x353_3) hx hb hr (fun t ht9 hW => ⟨x353_3, rfl, ⟨trivial, (show (x353_3 : Int32).toInt = smI (cxP (fa 10 0) (a).toInt ((iv 11 10) : Int32).toInt 0) (fun s : Nat => cl40 (er1 (fa 9 2) (tLa (fa 9 0) (fa 9 1) ((fa 10 0) (9 * s + 2)) ((fa 10 0) (9 * s + 7)) (((iv 9 3) : Int32).toInt).toNat) (tFi (fa 9 0) (fa 9 1) ((fa 10 0) (9 * s + 2)) ((fa 10 0) (9 * s + 7)) (((iv 9 3) : Int32).toInt).toNat))) (((iv 10 1) : Int32).toInt).toNat from (by have hq9 := hq354_0; have he9 : (x353_4 : Int32).toInt = (iv 10 1).toInt := (by omega); rw [he9] at hq9; exact hq9))⟩, ht9⟩) (fun q hq => by cases hq) dX11_errors_125
      · have fc355 := z_nle (rfl : ((iv 10 1)).toInt = _) (rfl : (x353_4).toInt = _) c355
        refine lv_aload_n hx hb dX11_errors_17 rfl (lv_at hl 2 rfl) ?_
        refine gX_11_0 hx hb ht hown hK hP m_415 dX11_errors_18 ?_
        refine lv_iload hx hb dX11_errors_21 (lv_at hl 0 rfl) ?_
        refine lv_iload_n hx hb dX11_errors_23 rfl (lv_at hl 3 rfl) ?_
        refine lv_iconst (v := 0) hx hb dX11_errors_24 (by decide) ?_
        refine vp_callSi (W.runV (As := [.int x353_4, .int a, .int 0]) (rest := []) ⟨hx, hb, hml, hown, ht⟩ (c_X10_isOf_x l dC dI h g ca iv lv fa la hI x353_4 a 0 ⟨by omega, by omega⟩) (kV 3 ht m_862 m_482 m_483 m_78 m_484 rfl rfl hd_X10_isOf_v ⟨Nat.le_of_ble_eq_true rfl, Nat.le_of_ble_eq_true rfl⟩) (vR hP hK (rX_10 hK hP)) rfl rfl hl.1 rfl (lv_room (Nat.le_of_ble_eq_true rfl)) dX11_errors_25 ⟨Nat.le_of_ble_eq_true rfl, Nat.le_of_ble_eq_true rfl⟩) (fun r356 hr356 => ?_)
        obtain ⟨hr356, xr356_0⟩ := hr356
        have : (0 : Int32).toInt = 0 := (by decide)
        have xr356_0 : (((r356 : Int32).toInt = 1 ∧ ((fa 10 0) (9 * ((x353_4 : Int32).toInt).toNat + 0)).toInt = (a : Int32).toInt ∧ ((fa 10 0) (9 * ((x353_4 : Int32).toInt).toNat + 1)).toInt = (0 : Int32).toInt) ∨ ((r356 : Int32).toInt = 0 ∧ ¬ (((fa 10 0) (9 * ((x353_4 : Int32).toInt).toNat + 0)).toInt = (a : Int32).toInt ∧ ((fa 10 0) (9 * ((x353_4 : Int32).toInt).toNat + 1)).toInt = (0 : Int32).toInt))) := xr356_0
        refine lv_if_eq (tgt := 118) hx hb dX11_errors_28 (by decide) (fun c357 => ?_) (fun c357 => ?_)
        · have fc357 := z_eq (rfl : (r356).toInt = _) (by decide : (0 : Int32).toInt = 0) c357
          obtain ⟨v358, ev358⟩ : ∃ y : Int32, y = x353_4 + 1 := ⟨_, rfl⟩
          have tv358 := z_add ev358 rfl (by decide : (1 : Int32).toInt = 1) (by omega) (by omega)
          refine lv_iinc (v := v358) (lv' := [(4, .int v358), (3, .int x353_3), (0, .ref h), (1, .int a), (2, .int 1)]) hx hb dX11_errors_118 hl (k := 0) rfl (by rw [ev358]; rfl) (by decide) rfl (fun ls hl => ?_)
          refine lv_goto (tgt := 5) hx hb dX11_errors_121 (by decide) ?_
          exact ih354 v358 x353_3 ⟨by omega, by omega⟩ (show (x353_3 : Int32).toInt = smI (cxP (fa 10 0) (a).toInt ((iv 11 10) : Int32).toInt 0) (fun s : Nat => cl40 (er1 (fa 9 2) (tLa (fa 9 0) (fa 9 1) ((fa 10 0) (9 * s + 2)) ((fa 10 0) (9 * s + 7)) (((iv 9 3) : Int32).toInt).toNat) (tFi (fa 9 0) (fa 9 1) ((fa 10 0) (9 * s + 2)) ((fa 10 0) (9 * s + 7)) (((iv 9 3) : Int32).toInt).toNat))) ((v358 : Int32).toInt).toNat from (by
                have hs9 : ((v358 : Int32).toInt).toNat = ((x353_4 : Int32).toInt).toNat + 1 := by omega
                have hq9 := hq354_0
                have y9_0 := xr356_0
                rw [smI_n hs9 (show ¬ (((fa 10 0) (9 * ((x353_4 : Int32).toInt).toNat + 0)).toInt = a.toInt ∧ ((fa 10 0) (9 * ((x353_4 : Int32).toInt).toNat + 1)).toInt = 0 ∧ ((fa 10 0) (9 * ((x353_4 : Int32).toInt).toNat + 7)).toInt ≤ (iv 11 10).toInt ∧ (((fa 10 0) (9 * ((x353_4 : Int32).toInt).toNat + 8)).toInt = -1 ∨ (iv 11 10).toInt < ((fa 10 0) (9 * ((x353_4 : Int32).toInt).toNat + 8)).toInt)) from by omega)]; exact hq9)) (show (v358 : Int32).toInt ≤ ((iv 10 1) : Int32).toInt from by omega) (by omega) ls (lv_sub hl [0, 1, 2, 3, 4] rfl)
        · have fc357 := z_ne (rfl : (r356).toInt = _) (by decide : (0 : Int32).toInt = 0) c357
          refine lv_aload_n hx hb dX11_errors_31 rfl (lv_at hl 2 rfl) ?_
          refine gX_11_0 hx hb ht hown hK hP m_415 dX11_errors_32 ?_
          refine lv_iload hx hb dX11_errors_35 (lv_at hl 0 rfl) ?_
          refine lv_aload_n hx hb dX11_errors_37 rfl (lv_at hl 2 rfl) ?_
          refine gX_11_10 hx hb ht hown hK hP m_425 (v := (iv 11 10)) rfl dX11_errors_38 ?_
          refine vp_callSi (W.runV (As := [.int x353_4, .int (iv 11 10)]) (rest := []) ⟨hx, hb, hml, hown, ht⟩ (c_X10_counts_x l dC dI h g ca iv lv fa la hI x353_4 (iv 11 10) ⟨by omega, by omega⟩) (kV 2 ht m_863 m_574 m_575 m_78 m_576 rfl rfl hd_X10_counts_v ⟨Nat.le_of_ble_eq_true rfl, Nat.le_of_ble_eq_true rfl⟩) (vR hP hK (rX_10 hK hP)) rfl rfl hl.1 rfl (lv_room (Nat.le_of_ble_eq_true rfl)) dX11_errors_41 ⟨Nat.le_of_ble_eq_true rfl, Nat.le_of_ble_eq_true rfl⟩) (fun r359 hr359 => ?_)
          obtain ⟨hr359, xr359_0⟩ := hr359
          have xr359_0 : (((r359 : Int32).toInt = 1 ∧ ((fa 10 0) (9 * ((x353_4 : Int32).toInt).toNat + 7)).toInt ≤ ((iv 11 10) : Int32).toInt ∧ (((fa 10 0) (9 * ((x353_4 : Int32).toInt).toNat + 8)).toInt = -1 ∨ ((iv 11 10) : Int32).toInt < ((fa 10 0) (9 * ((x353_4 : Int32).toInt).toNat + 8)).toInt)) ∨ ((r359 : Int32).toInt = 0 ∧ ¬ (((fa 10 0) (9 * ((x353_4 : Int32).toInt).toNat + 7)).toInt ≤ ((iv 11 10) : Int32).toInt ∧ (((fa 10 0) (9 * ((x353_4 : Int32).toInt).toNat + 8)).toInt = -1 ∨ ((iv 11 10) : Int32).toInt < ((fa 10 0) (9 * ((x353_4 : Int32).toInt).toNat + 8)).toInt)))) := xr359_0
          refine lv_if_eq (tgt := 118) hx hb dX11_errors_44 (by decide) (fun c360 => ?_) (fun c360 => ?_)
          · have fc360 := z_eq (rfl : (r359).toInt = _) (by decide : (0 : Int32).toInt = 0) c360
            obtain ⟨v361, ev361⟩ : ∃ y : Int32, y = x353_4 + 1 := ⟨_, rfl⟩
            have tv361 := z_add ev361 rfl (by decide : (1 : Int32).toInt = 1) (by omega) (by omega)
            refine lv_iinc (v := v361) (lv' := [(4, .int v361), (3, .int x353_3), (0, .ref h), (1, .int a), (2, .int 1)]) hx hb dX11_errors_118 hl (k := 0) rfl (by rw [ev361]; rfl) (by decide) rfl (fun ls hl => ?_)
            refine lv_goto (tgt := 5) hx hb dX11_errors_121 (by decide) ?_
            exact ih354 v361 x353_3 ⟨by omega, by omega⟩ (show (x353_3 : Int32).toInt = smI (cxP (fa 10 0) (a).toInt ((iv 11 10) : Int32).toInt 0) (fun s : Nat => cl40 (er1 (fa 9 2) (tLa (fa 9 0) (fa 9 1) ((fa 10 0) (9 * s + 2)) ((fa 10 0) (9 * s + 7)) (((iv 9 3) : Int32).toInt).toNat) (tFi (fa 9 0) (fa 9 1) ((fa 10 0) (9 * s + 2)) ((fa 10 0) (9 * s + 7)) (((iv 9 3) : Int32).toInt).toNat))) ((v361 : Int32).toInt).toNat from (by
                  have hs9 : ((v361 : Int32).toInt).toNat = ((x353_4 : Int32).toInt).toNat + 1 := by omega
                  have hq9 := hq354_0
                  have y9_0 := xr356_0
                  have y9_1 := xr359_0
                  rw [smI_n hs9 (show ¬ (((fa 10 0) (9 * ((x353_4 : Int32).toInt).toNat + 0)).toInt = a.toInt ∧ ((fa 10 0) (9 * ((x353_4 : Int32).toInt).toNat + 1)).toInt = 0 ∧ ((fa 10 0) (9 * ((x353_4 : Int32).toInt).toNat + 7)).toInt ≤ (iv 11 10).toInt ∧ (((fa 10 0) (9 * ((x353_4 : Int32).toInt).toNat + 8)).toInt = -1 ∨ (iv 11 10).toInt < ((fa 10 0) (9 * ((x353_4 : Int32).toInt).toNat + 8)).toInt)) from by omega)]; exact hq9)) (show (v361 : Int32).toInt ≤ ((iv 10 1) : Int32).toInt from by omega) (by omega) ls (lv_sub hl [0, 1, 2, 3, 4] rfl)
          · have fc360 := z_ne (rfl : (r359).toInt = _) (by decide : (0 : Int32).toInt = 0) c360
            refine lv_aload_n hx hb dX11_errors_47 rfl (lv_at hl 2 rfl) ?_
            refine gX_11_0 hx hb ht hown hK hP m_415 dX11_errors_48 ?_
            refine lv_iload hx hb dX11_errors_51 (lv_at hl 0 rfl) ?_
            refine lv_iconst (v := 2) hx hb dX11_errors_53 (by decide) ?_
            refine vp_callSi (W.runV (As := [.int x353_4, .int 2]) (rest := []) ⟨hx, hb, hml, hown, ht⟩ (c_X10_get_x2 l dC dI h g ca iv lv fa la hI x353_4 ⟨by omega, by omega⟩) (kV 2 ht m_513 m_486 m_487 m_78 m_488 rfl rfl hd_X10_get_v ⟨Nat.le_of_ble_eq_true rfl, Nat.le_of_ble_eq_true rfl⟩) (vR hP hK (rX_10 hK hP)) rfl rfl hl.1 rfl (lv_room (Nat.le_of_ble_eq_true rfl)) dX11_errors_54 ⟨Nat.le_of_ble_eq_true rfl, Nat.le_of_ble_eq_true rfl⟩) (fun r362 hr362 => ?_)
            obtain ⟨hr362, xr362_0⟩ := hr362
            have xr362_0 : (r362 : Int32).toInt = ((fa 10 0) (9 * ((x353_4 : Int32).toInt).toNat + 2)).toInt := xr362_0
            refine lv_istore (lv' := [(5, .int r362), (4, .int x353_4), (3, .int x353_3), (0, .ref h), (1, .int a), (2, .int 1)]) hx hb dX11_errors_57 hl (by decide) rfl (fun ls hl => ?_)
            refine lv_aload_n hx hb dX11_errors_59 rfl (lv_at hl 3 rfl) ?_
            refine gX_11_0 hx hb ht hown hK hP m_415 dX11_errors_60 ?_
            refine lv_iload hx hb dX11_errors_63 (lv_at hl 1 rfl) ?_
            refine lv_bipush (v := 7) hx hb dX11_errors_65 (by decide) ?_
            refine vp_callSi (W.runV (As := [.int x353_4, .int 7]) (rest := []) ⟨hx, hb, hml, hown, ht⟩ (c_X10_get_x7 l dC dI h g ca iv lv fa la hI x353_4 ⟨by omega, by omega⟩) (kV 2 ht m_513 m_486 m_487 m_78 m_488 rfl rfl hd_X10_get_v ⟨Nat.le_of_ble_eq_true rfl, Nat.le_of_ble_eq_true rfl⟩) (vR hP hK (rX_10 hK hP)) rfl rfl hl.1 rfl (lv_room (Nat.le_of_ble_eq_true rfl)) dX11_errors_67 ⟨Nat.le_of_ble_eq_true rfl, Nat.le_of_ble_eq_true rfl⟩) (fun r363 hr363 => ?_)
            obtain ⟨hr363, xr363_0⟩ := hr363
            have xr363_0 : (r363 : Int32).toInt = ((fa 10 0) (9 * ((x353_4 : Int32).toInt).toNat + 7)).toInt := xr363_0
            refine lv_istore (lv' := [(6, .int r363), (5, .int r362), (4, .int x353_4), (3, .int x353_3), (0, .ref h), (1, .int a), (2, .int 1)]) hx hb dX11_errors_70 hl (by decide) rfl (fun ls hl => ?_)
            refine lv_iload_n hx hb dX11_errors_72 rfl (lv_at hl 6 rfl) ?_
            refine lv_if_eq (tgt := 90) hx hb dX11_errors_73 (by decide) (fun c364 => ?_) (fun c364 => ?_)
            · exact absurd c364 (by decide)
            · skip
              refine lv_aload_n hx hb dX11_errors_76 rfl (lv_at hl 4 rfl) ?_
              refine gX_11_1 hx hb ht hown hK hP m_416 dX11_errors_77 ?_
              refine lv_iload hx hb dX11_errors_80 (lv_at hl 1 rfl) ?_
              refine lv_iload hx hb dX11_errors_82 (lv_at hl 0 rfl) ?_
              refine vp_callSi (W.runV (As := [.int r362, .int r363]) (rest := []) ⟨hx, hb, hml, hown, ht⟩ (c_X9_greatest_x l dC dI h g ca iv lv fa la hI r362 r363) (kV 2 ht m_553 m_554 m_555 m_79 m_556 rfl rfl hd_X9_greatest_v ⟨Nat.le_of_ble_eq_true rfl, Nat.le_of_ble_eq_true rfl⟩) (vR hP hK (rX_9 hK hP)) rfl rfl hl.1 rfl (lv_room (Nat.le_of_ble_eq_true rfl)) dX11_errors_84 ⟨Nat.le_of_ble_eq_true rfl, Nat.le_of_ble_eq_true rfl⟩) (fun r365 hr365 => ?_)
              obtain ⟨hr365, xr365_0⟩ := hr365
              have xr365_0 : (r365 : Int32).toInt = er1 (fa 9 2) (tLa (fa 9 0) (fa 9 1) (r362 : Int32) (r363 : Int32) (((iv 9 3) : Int32).toInt).toNat) (tFi (fa 9 0) (fa 9 1) (r362 : Int32) (r363 : Int32) (((iv 9 3) : Int32).toInt).toNat) := xr365_0
              refine lv_goto (tgt := 101) hx hb dX11_errors_87 (by decide) ?_
              refine lv_istore (lv' := [(7, .int r365), (6, .int r363), (5, .int r362), (4, .int x353_4), (3, .int x353_3), (0, .ref h), (1, .int a), (2, .int 1)]) hx hb dX11_errors_101 hl (by decide) rfl (fun ls hl => ?_)
              refine lv_iload_n hx hb dX11_errors_103 rfl (lv_at hl 4 rfl) ?_
              refine lv_bipush (v := (-40)) hx hb dX11_errors_104 (by decide) ?_
              refine lv_bipush (v := 40) hx hb dX11_errors_106 (by decide) ?_
              refine lv_iload hx hb dX11_errors_108 (lv_at hl 0 rfl) ?_
              refine va_mmin hx hb (hml.trans hl.1.symm) hown (ht _ m_864) (ht _ m_551) (ht _ m_90) (ht _ m_552) (Nat.le_of_ble_eq_true rfl) (Nat.le_of_ble_eq_true rfl) (Nat.le_of_ble_eq_true rfl) (Nat.le_of_ble_eq_true rfl) dX11_errors_110 ?_
              refine lv_topi (fun v366 ev366 => ?_)
              have tv366 := mm_or ev366
              rw [show (40 : Int32).toInt = 40 from by decide] at tv366
              have uv366 := mm_min ev366 (by decide : (40 : Int32).toInt = 40) (rfl : (r365).toInt = _)
              refine va_mmax hx hb (hml.trans hl.1.symm) hown (ht _ m_865) (ht _ m_558) (ht _ m_90) (ht _ m_559) (Nat.le_of_ble_eq_true rfl) (Nat.le_of_ble_eq_true rfl) (Nat.le_of_ble_eq_true rfl) (Nat.le_of_ble_eq_true rfl) dX11_errors_113 ?_
              refine lv_topi (fun v367 ev367 => ?_)
              have tv367 := mm_or ev367
              rw [show ((-40) : Int32).toInt = (-40) from by decide] at tv367
              have uv367 := mm_max ev367 (by decide : ((-40) : Int32).toInt = (-40)) (rfl : (v366).toInt = _)
              refine lv_iadd hx hb dX11_errors_116 ?_
              refine lv_topi (fun v368 ev368 => ?_)
              refine lv_istore_n (lv' := [(3, .int v368), (7, .int r365), (6, .int r363), (5, .int r362), (4, .int x353_4), (0, .ref h), (1, .int a), (2, .int 1)]) hx hb dX11_errors_117 rfl hl (by decide) rfl (fun ls hl => ?_)
              obtain ⟨v369, ev369⟩ : ∃ y : Int32, y = x353_4 + 1 := ⟨_, rfl⟩
              have tv369 := z_add ev369 rfl (by decide : (1 : Int32).toInt = 1) (by omega) (by omega)
              refine lv_iinc (v := v369) (lv' := [(4, .int v369), (3, .int v368), (7, .int r365), (6, .int r363), (5, .int r362), (0, .ref h), (1, .int a), (2, .int 1)]) hx hb dX11_errors_118 hl (k := 4) rfl (by rw [ev369]; rfl) (by decide) rfl (fun ls hl => ?_)
              refine lv_goto (tgt := 5) hx hb dX11_errors_121 (by decide) ?_
              exact ih354 v369 v368 ⟨by omega, by omega⟩ (show (v368 : Int32).toInt = smI (cxP (fa 10 0) (a).toInt ((iv 11 10) : Int32).toInt 0) (fun s : Nat => cl40 (er1 (fa 9 2) (tLa (fa 9 0) (fa 9 1) ((fa 10 0) (9 * s + 2)) ((fa 10 0) (9 * s + 7)) (((iv 9 3) : Int32).toInt).toNat) (tFi (fa 9 0) (fa 9 1) ((fa 10 0) (9 * s + 2)) ((fa 10 0) (9 * s + 7)) (((iv 9 3) : Int32).toInt).toNat))) ((v369 : Int32).toInt).toNat from (by
                    have hs9 : ((v369 : Int32).toInt).toNat = ((x353_4 : Int32).toInt).toNat + 1 := by omega
                    have hq9 := hq354_0
                    have y9_0 := xr356_0
                    have y9_1 := xr359_0
                    have ha9 : r362 = fa 10 0 (9 * ((x353_4 : Int32).toInt).toNat + 2) := Int32.toInt_inj.mp xr362_0
                    have hb9 : r363 = fa 10 0 (9 * ((x353_4 : Int32).toInt).toNat + 7) := Int32.toInt_inj.mp xr363_0
                    have he9 := xr365_0
                    rw [ha9, hb9] at he9
                    have hv9 : (v367 : Int32).toInt = cl40 (r365 : Int32).toInt := by
                      unfold cl40
                      split
                      · omega
                      · split <;> omega
                    rw [he9] at hv9
                    have hl9 := smI_b (c := cxP (fa 10 0) a.toInt (iv 11 10).toInt 0) (f := (fun s : Nat => cl40 (er1 (fa 9 2) (tLa (fa 9 0) (fa 9 1) ((fa 10 0) (9 * s + 2)) ((fa 10 0) (9 * s + 7)) ((iv 9 3).toInt).toNat) (tFi (fa 9 0) (fa 9 1) ((fa 10 0) (9 * s + 2)) ((fa 10 0) (9 * s + 7)) ((iv 9 3).toInt).toNat)))) (fun j => cl40_b _) ((x353_4 : Int32).toInt).toNat (by omega)
                    rw [← hq9] at hl9
                    have hp9 := z_add ev368 rfl rfl (by omega) (by omega)
                    rw [smI_y hs9 (show (((fa 10 0) (9 * ((x353_4 : Int32).toInt).toNat + 0)).toInt = a.toInt ∧ ((fa 10 0) (9 * ((x353_4 : Int32).toInt).toNat + 1)).toInt = 0 ∧ ((fa 10 0) (9 * ((x353_4 : Int32).toInt).toNat + 7)).toInt ≤ (iv 11 10).toInt ∧ (((fa 10 0) (9 * ((x353_4 : Int32).toInt).toNat + 8)).toInt = -1 ∨ (iv 11 10).toInt < ((fa 10 0) (9 * ((x353_4 : Int32).toInt).toNat + 8)).toInt)) from ⟨by omega, by omega, by omega, by omega⟩), ← hq9, hp9, hv9])) (show (v369 : Int32).toInt ≤ ((iv 10 1) : Int32).toInt from by omega) (by omega) ls (lv_sub hl [0, 1, 5, 6, 7] rfl)
  have : (0 : Int32).toInt = 0 := (by decide)
  have i_11_10 : 0 ≤ (iv 11 10).toInt ∧ (iv 11 10).toInt ≤ 3000 := hI.1 11 10
  have i_9_3 : 0 ≤ (iv 9 3).toInt ∧ (iv 9 3).toInt ≤ 30 := hI.1 9 3
  have i_10_1 : 0 ≤ (iv 10 1).toInt ∧ (iv 10 1).toInt ≤ 60 := hI.1 10 1
  exact lp354 61 0 0 ⟨by decide, by decide⟩ (show (0 : Int32).toInt = smI (cxP (fa 10 0) (a).toInt ((iv 11 10) : Int32).toInt 0) (fun s : Nat => cl40 (er1 (fa 9 2) (tLa (fa 9 0) (fa 9 1) ((fa 10 0) (9 * s + 2)) ((fa 10 0) (9 * s + 7)) (((iv 9 3) : Int32).toInt).toNat) (tFi (fa 9 0) (fa 9 1) ((fa 10 0) (9 * s + 2)) ((fa 10 0) (9 * s + 7)) (((iv 9 3) : Int32).toInt).toNat))) ((0 : Int32).toInt).toNat from (by have hz : ((0 : Int32).toInt).toNat = 0 := (by decide); rw [hz]; exact (by decide : (0 : Int32).toInt = 0))) (show (0 : Int32).toInt ≤ ((iv 10 1) : Int32).toInt from by omega) (by first | decide | omega) ls (lv_sub hl [0, 1, 2, 3, 4] rfl)
