/-! ===== bk3 ===== -/
set_option maxHeartbeats 4000000 in
set_option maxRecDepth 100000 in
/-- X1_lastOf -/
theorem c_X1_lastOf_f (l : Launch) (dC : Nat → ClassId) (dI : Nat → Nat → Nat) (h : Nat) (g : Nat → Nat → Nat) (ca : Nat → Nat → ClassId) (iv : Nat → Nat → Int32) (lv : Nat → Nat → Int64) (fa : Nat → Nat → Nat → Int32) (la : Nat → Nat → Nat → Int64) (hI : IX iv fa) (a : Int32) (b : Int32) (h_a : 0 ≤ a.toInt ∧ a.toInt ≤ 7) : Met l yX1_lastOf (wc yX1_lastOf cX1_lastOf 5 (some .int)) ({ frames := 0, cells := 0, slots := 0, locals := 0 } : Room) (pR (dC, dI) classes (WX h g ca iv lv fa la) (TX ca) [.ref (g 11 3), .int a, .int b]) (vp_Si (fun r => ((-1) ≤ r.toInt ∧ r.toInt ≤ 95) ∧ (La (12 * a.toInt) (12 * a.toInt + ((fa 1 1) (a.toInt).toNat).toInt) 0 (mX (fa 1 2) b.toInt) r.toInt))) 0 0 (fun _ => False) := by
  refine Met.ofW (cc := cX1_lastOf) (maxL := 5) (ret := (some .int)) (by decide) rfl ?_
  intro p e s m args below meth c s₁ B hml hv
  obtain ⟨rfl, hP, hK⟩ := hv
  have hx := B.exec
  have hb := B.bytes
  have hr := B.returns
  have ht := tb_tl (atoms_spec (ws := wc yX1_lastOf cX1_lastOf 5 (some .int)) B.pre)
  have hown : s.vm.findClass RX1 = some m.cls := findClass_of_methodNamed B.named
  have hlocks := B.notSynchronized
  have hl := lv_entry [.ref (g 11 3), .int a, .int b] (n := 5) (Nat.le_of_ble_eq_true rfl)
  rw [lg_entry_eq]
  generalize (lg_sl [.ref (g 11 3), .int a, .int b] ++ List.replicate (5 - (lg_sl [.ref (g 11 3), .int a, .int b]).length) Slot.unset).toArray = ls at hl ⊢
  have hl : lv_has ls 5 [(0, .ref (g 11 3)), (1, .int a), (2, .int b)] := hl
  refine lv_iconst (v := (-1)) hx hb dX1_lastOf_0 (by decide) ?_
  refine lv_istore_n (lv' := [(3, .int (-1)), (0, .ref (g 11 3)), (1, .int a), (2, .int b)]) hx hb dX1_lastOf_1 rfl hl (by decide) rfl (fun ls hl => ?_)
  refine lv_iload_n hx hb dX1_lastOf_2 rfl (lv_at hl 2 rfl) ?_
  refine lv_bipush (v := 12) hx hb dX1_lastOf_3 (by decide) ?_
  refine lv_imul hx hb dX1_lastOf_5 ?_
  refine lv_topi (fun v1 ev1 => ?_)
  have tv1 := z_mul ev1 (rfl : (a).toInt = _) (by decide : (12 : Int32).toInt = 12) (by omega) (by omega)
  have hb9 : 0 ≤ (fa 1 1 (a.toInt).toNat).toInt ∧ (fa 1 1 (a.toInt).toNat).toInt ≤ 12 := hI.2 1 1 _
  refine lv_istore (lv' := [(4, .int v1), (3, .int (-1)), (0, .ref (g 11 3)), (1, .int a), (2, .int b)]) hx hb dX1_lastOf_6 hl (by decide) rfl (fun ls hl => ?_)
  have lp30 : ∀ (nn30 : Nat) (x29_4 : Int32) (x29_3 : Int32), 0 ≤ x29_4.toInt ∧ x29_4.toInt ≤ 96 → (-1) ≤ x29_3.toInt ∧ x29_3.toInt ≤ 95 → (La (12 * (a).toInt) (x29_4 : Int32).toInt 0 (mX (fa 1 2) (b).toInt) (x29_3 : Int32).toInt) → 12 * (a).toInt ≤ (x29_4 : Int32).toInt → (x29_4 : Int32).toInt ≤ (12 * (a).toInt + ((fa 1 1) ((a).toInt).toNat).toInt) → 96 - x29_4.toInt < (nn30 : Int) → ∀ (ls : Array Slot), lv_has ls 5 [(4, .int x29_4), (3, .int x29_3), (0, .ref (g 11 3)), (1, .int a), (2, .int b)] → W p l e ({ frames := 0, cells := 0, slots := 0, locals := 0 } : Room) s m ([.ref (g 11 3), .int a, .int b] : List Value).toArray below meth c s.heap [] 0 0 (MQ below (vp_Si (fun r => ((-1) ≤ r.toInt ∧ r.toInt ≤ 95) ∧ (La (12 * a.toInt) (12 * a.toInt + ((fa 1 1) (a.toInt).toNat).toInt) 0 (mX (fa 1 2) b.toInt) r.toInt))) ([.ref (g 11 3), .int a, .int b] : List Value).toArray s 0 0 (fun _ => False)) (F0 m 8 ls []) := by
    intro nn30
    induction nn30 with
    | zero => intro x29_4 x29_3 hx29_4 hx29_3 hq30_0 hq30_1 hq30_2 hm30; exfalso; omega
    | succ nn30 ih30 =>
      intro x29_4 x29_3 hx29_4 hx29_3 hq30_0 hq30_1 hq30_2 hm30 ls hl
      refine lv_iload hx hb dX1_lastOf_8 (lv_at hl 0 rfl) ?_
      refine lv_iload_n hx hb dX1_lastOf_10 rfl (lv_at hl 3 rfl) ?_
      refine lv_bipush (v := 12) hx hb dX1_lastOf_11 (by decide) ?_
      refine lv_imul hx hb dX1_lastOf_13 ?_
      refine lv_topi (fun v31 ev31 => ?_)
      obtain rfl : v1 = v31 := ev1.trans ev31.symm
      refine lv_aload_n hx hb dX1_lastOf_14 rfl (lv_at hl 2 rfl) ?_
      refine gX_1_1 hx hb ht hown hK hP m_190 dX1_lastOf_15 ?_
      refine lv_iload_n hx hb dX1_lastOf_18 rfl (lv_at hl 3 rfl) ?_
      refine lX_1_1 hx hb hK hP (f := (fa 1 1)) rfl (vp_in_iff.mpr ⟨by omega, by omega⟩) dX1_lastOf_19 ?_
      refine lv_topi (fun v32 ev32 => ?_)
      have tv32 : 0 ≤ v32.toInt ∧ v32.toInt ≤ 12 := by rw [ev32]; exact hI.2 1 1 _
      have hn9 := congrArg Int32.toInt (show v32 = fa 1 1 (a.toInt).toNat from ev32)
      refine lv_iadd hx hb dX1_lastOf_20 ?_
      refine lv_topi (fun v33 ev33 => ?_)
      have tv33 := z_add ev33 (rfl : (v1).toInt = _) (rfl : (v32).toInt = _) (by omega) (by omega)
      refine lv_icmp_ge (tgt := 44) hx hb dX1_lastOf_21 (by decide) (fun c34 => ?_) (fun c34 => ?_)
      · have fc34 := z_le (rfl : (v33).toInt = _) (rfl : (x29_4).toInt = _) c34
        refine lv_iload_n hx hb dX1_lastOf_44 rfl (lv_at hl 1 rfl) ?_
        exact W.iret (v := x29_3) hx hb hr (fun t ht9 hW => ⟨x29_3, rfl, ⟨⟨by omega, by omega⟩, (show La (12 * (a).toInt) (12 * (a).toInt + ((fa 1 1) ((a).toInt).toNat).toInt) 0 (mX (fa 1 2) (b).toInt) (x29_3 : Int32).toInt from (by have hq9 := hq30_0; have he9 : (x29_4 : Int32).toInt = 12 * a.toInt + (fa 1 1 (a.toInt).toNat).toInt := (by omega); rw [he9] at hq9; exact hq9))⟩, ht9⟩) (fun q hq => by cases hq) dX1_lastOf_45
      · have fc34 := z_nle (rfl : (v33).toInt = _) (rfl : (x29_4).toInt = _) c34
        refine lv_aload_n hx hb dX1_lastOf_24 rfl (lv_at hl 2 rfl) ?_
        refine gX_1_2 hx hb ht hown hK hP m_191 dX1_lastOf_25 ?_
        refine lv_iload hx hb dX1_lastOf_28 (lv_at hl 0 rfl) ?_
        refine lX_1_2 hx hb hK hP (f := (fa 1 2)) rfl (vp_in_iff.mpr ⟨by omega, by omega⟩) dX1_lastOf_30 ?_
        refine lv_topi (fun v35 ev35 => ?_)
        refine lv_iload_n hx hb dX1_lastOf_31 rfl (lv_at hl 4 rfl) ?_
        refine lv_icmp_ne (tgt := 38) hx hb dX1_lastOf_32 (by decide) (fun c36 => ?_) (fun c36 => ?_)
        · have fc36 := z_ne (rfl : (v35).toInt = _) (rfl : (b).toInt = _) c36
          obtain ⟨v37, ev37⟩ : ∃ y : Int32, y = x29_4 + 1 := ⟨_, rfl⟩
          have tv37 := z_add ev37 rfl (by decide : (1 : Int32).toInt = 1) (by omega) (by omega)
          refine lv_iinc (v := v37) (lv' := [(4, .int v37), (3, .int x29_3), (0, .ref (g 11 3)), (1, .int a), (2, .int b)]) hx hb dX1_lastOf_38 hl (k := 0) rfl (by rw [ev37]; rfl) (by decide) rfl (fun ls hl => ?_)
          refine lv_goto (tgt := 8) hx hb dX1_lastOf_41 (by decide) ?_
          exact ih30 v37 x29_3 ⟨by omega, by omega⟩ ⟨by omega, by omega⟩ (show La (12 * (a).toInt) (v37 : Int32).toInt 0 (mX (fa 1 2) (b).toInt) (x29_3 : Int32).toInt from (by have hv9 := congrArg Int32.toInt (show v35 = fa 1 2 ((x29_4 : Int32).toInt).toNat from ev35); exact La_n (c := ((x29_4 : Int32).toInt).toNat) (hi := (x29_4 : Int32).toInt) (by omega) (by omega) (show ¬ (fa 1 2 ((x29_4 : Int32).toInt).toNat).toInt = b.toInt from by omega) hq30_0)) (show 12 * (a).toInt ≤ (v37 : Int32).toInt from by omega) (show (v37 : Int32).toInt ≤ (12 * (a).toInt + ((fa 1 1) ((a).toInt).toNat).toInt) from by omega) (by omega) ls (lv_sub hl [0, 1, 2, 3, 4] rfl)
        · have fc36 := z_eq (rfl : (v35).toInt = _) (rfl : (b).toInt = _) c36
          refine lv_iload hx hb dX1_lastOf_35 (lv_at hl 0 rfl) ?_
          refine lv_istore_n (lv' := [(3, .int x29_4), (4, .int x29_4), (0, .ref (g 11 3)), (1, .int a), (2, .int b)]) hx hb dX1_lastOf_37 rfl hl (by decide) rfl (fun ls hl => ?_)
          obtain ⟨v38, ev38⟩ : ∃ y : Int32, y = x29_4 + 1 := ⟨_, rfl⟩
          have tv38 := z_add ev38 rfl (by decide : (1 : Int32).toInt = 1) (by omega) (by omega)
          refine lv_iinc (v := v38) (lv' := [(4, .int v38), (3, .int x29_4), (0, .ref (g 11 3)), (1, .int a), (2, .int b)]) hx hb dX1_lastOf_38 hl (k := 1) rfl (by rw [ev38]; rfl) (by decide) rfl (fun ls hl => ?_)
          refine lv_goto (tgt := 8) hx hb dX1_lastOf_41 (by decide) ?_
          exact ih30 v38 x29_4 ⟨by omega, by omega⟩ ⟨by omega, by omega⟩ (show La (12 * (a).toInt) (v38 : Int32).toInt 0 (mX (fa 1 2) (b).toInt) (x29_4 : Int32).toInt from (by have hv9 := congrArg Int32.toInt (show v35 = fa 1 2 ((x29_4 : Int32).toInt).toNat from ev35); exact La_y (c := ((x29_4 : Int32).toInt).toNat) (hi := (x29_4 : Int32).toInt) (by omega) (by omega) (by omega) (show (fa 1 2 ((x29_4 : Int32).toInt).toNat).toInt = b.toInt from by omega) (by omega))) (show 12 * (a).toInt ≤ (v38 : Int32).toInt from by omega) (show (v38 : Int32).toInt ≤ (12 * (a).toInt + ((fa 1 1) ((a).toInt).toNat).toInt) from by omega) (by omega) ls (lv_sub hl [0, 1, 2, 3, 4] rfl)
  have : ((-1) : Int32).toInt = (-1) := (by decide)
  exact lp30 97 v1 (-1) ⟨by omega, by omega⟩ ⟨by decide, by decide⟩ (show La (12 * (a).toInt) (v1 : Int32).toInt 0 (mX (fa 1 2) (b).toInt) ((-1) : Int32).toInt from (by rw [show (v1 : Int32).toInt = 12 * a.toInt from by omega]; exact La_0)) (show 12 * (a).toInt ≤ (v1 : Int32).toInt from by omega) (show (v1 : Int32).toInt ≤ (12 * (a).toInt + ((fa 1 1) ((a).toInt).toNat).toInt) from by omega) (by first | decide | omega) ls (lv_sub hl [0, 1, 2, 3, 4] rfl)
set_option maxHeartbeats 4000000 in
set_option maxRecDepth 100000 in
/-- X1_holding -/
theorem c_X1_holding_f (l : Launch) (dC : Nat → ClassId) (dI : Nat → Nat → Nat) (sz : Nat) (ak av : Nat → Nat) (h : Nat) (g : Nat → Nat → Nat) (ca : Nat → Nat → ClassId) (iv : Nat → Nat → Int32) (lv : Nat → Nat → Int64) (fa : Nat → Nat → Nat → Int32) (la : Nat → Nat → Nat → Int64) (hI : IX iv fa) (a : Int32) (b : Int32) (h_a : 0 ≤ a.toInt ∧ a.toInt ≤ 5) (hJB : ∀ j : Nat, (j : Int) < (iv 1 7).toInt → 0 ≤ (fa 1 0 j).toInt) : Met l yX1_holding (wc yX1_holding cX1_holding 7 (some .int)) ({ frames := 3, cells := 0, slots := 0, locals := 67 } : Room) (pWZ ak av (dC, dI) classes (WX h g ca iv lv fa la) (TX ca) sz [.ref (g 11 3), .int a, .int b]) (va_Qi (fun r (u : SS) => ∃ (na_1_6 : Nat → Int32), (∀ j, inb (bA 1 6 j) (na_1_6 j)) ∧ (FoX (iv 1 7).toInt (fa 1 0) (fa 1 1) (fa 1 2) (fa 1 3) a.toInt b.toInt r.toInt) ∧ (True) ∧ u = (iv, lv, (u2 fa 1 6 na_1_6), la)) (bX (dC, dI) h g ca (va_A (WX h g ca iv lv fa la) sz)) (va_A (WX h g ca iv lv fa la) sz)) 0 0 (va_A (WX h g ca iv lv fa la) sz) := by
  refine Met.ofW (cc := cX1_holding) (maxL := 7) (ret := (some .int)) (by decide) rfl ?_
  intro p e s m args below meth c s₁ B hml hv
  obtain ⟨rfl, hsz, hP, hK, hD0, hZ⟩ := hv
  have hx := B.exec
  have hb := B.bytes
  have hr := B.returns
  have ht := tb_tl (atoms_spec (ws := wc yX1_holding cX1_holding 7 (some .int)) B.pre)
  have hown : s.vm.findClass RX1 = some m.cls := findClass_of_methodNamed B.named
  have hlocks := B.notSynchronized
  subst hsz
  have hD := hD0.self (sz := s.heap.size)
  generalize hAe : va_A (WX h g ca iv lv fa la) s.heap.size = A at hD hZ ⊢
  have hA : ∀ q : Nat, s.heap.size ≤ q → A q := fun q h => by rw [← hAe]; exact Or.inr h
  have hS : va_S A s.heap s.heap [] := va_S.rf
  have hl := lv_entry [.ref (g 11 3), .int a, .int b] (n := 7) (Nat.le_of_ble_eq_true rfl)
  rw [lg_entry_eq]
  generalize (lg_sl [.ref (g 11 3), .int a, .int b] ++ List.replicate (7 - (lg_sl [.ref (g 11 3), .int a, .int b]).length) Slot.unset).toArray = ls at hl ⊢
  have hl : lv_has ls 7 [(0, .ref (g 11 3)), (1, .int a), (2, .int b)] := hl
  refine lv_aload_n hx hb dX1_holding_0 rfl (lv_at hl 0 rfl) ?_
  refine lv_iload_n hx hb dX1_holding_1 rfl (lv_at hl 2 rfl) ?_
  have hFc := free_all hD hS hA
  refine va_callv (va_runV (As := [.int b]) (rest := []) ⟨hx, hb, hml, hown, ht⟩ (c_X1_findCounting_f l dC dI s.heap.size h g ca iv lv fa la hI b) (kV 1 ht m_604 m_606 m_5 m_81 m_607 rfl rfl hd_X1_findCounting_v ⟨Nat.le_of_ble_eq_true rfl, Nat.le_of_ble_eq_true rfl⟩) (vW hP hK hD (rX_1 hK hP)) rfl rfl hl.1 rfl (lv_room (Nat.le_of_ble_eq_true rfl)) dX1_holding_2 ⟨Nat.le_of_ble_eq_true rfl, Nat.le_of_ble_eq_true rfl⟩) hS (fun q _ h => hFc q h) hFc (fun u t H1 locs ht9 hvm hr1 hB hz1 hk1 hS => ?_)
  obtain ⟨n2, hn2, xr1_0, rfl⟩ := hr1
  obtain ⟨hP, hD⟩ := hB
  rw [ht9] at hP
  generalize H1 = H at hP hS ⊢
  have hP : va_P (dC, dI) classes (WX h g ca iv lv (u2 fa 1 6 n2) la) H := hP
  have hD : va_D A (WX h g ca iv lv (u2 fa 1 6 n2) la) := (show va_D _ (WX h g ca iv lv (u2 fa 1 6 n2) la) from hD).weaken (fun _ _ _ h => hFc _ h)
  have i_1_7 : 0 ≤ (iv 1 7).toInt ∧ (iv 1 7).toInt ≤ 8 := hI.1 1 7
  have xr1_0 : OnR ((iv 1 7) : Int32).toInt (fun r => (n2 r).toInt = 1) (fa 1 0) (St (fa 1 1) (mX (fa 1 2) 7) (fa 1 3)) (b : Int32).toInt := xr1_0
  obtain ⟨tz3, hztz3, hytz3⟩ := hZ.1.1
  refine va_gets hx hb hztz3 hS hown (ht _ m_616) (fun _ h9 => h9) dX1_holding_5 ?_
  refine lv_iload_n hx hb dX1_holding_8 rfl (lv_at hl 1 rfl) ?_
  refine va_ti (v := .int (C_AF (a : Int32).toNatClampNeg)) hx hb hytz3 hS (vp_in_iff.mpr ⟨by omega, by omega⟩) rfl dX1_holding_9 ?_
  refine lv_topi (fun v4 ev4 => ?_)
  have hf9 := (congrArg Int32.toInt ev4).trans (tab_af (r := a) ⟨by omega, by omega⟩)
  refine lv_istore_n (lv' := [(3, .int v4), (0, .ref (g 11 3)), (1, .int a), (2, .int b)]) hx hb dX1_holding_10 rfl hl (by decide) rfl (fun ls hl => ?_)
  refine lv_iconst (v := (-1)) hx hb dX1_holding_11 (by decide) ?_
  refine lv_istore (lv' := [(4, .int (-1)), (3, .int v4), (0, .ref (g 11 3)), (1, .int a), (2, .int b)]) hx hb dX1_holding_12 hl (by decide) rfl (fun ls hl => ?_)
  refine lv_iconst (v := 0) hx hb dX1_holding_14 (by decide) ?_
  refine lv_istore (lv' := [(5, .int 0), (4, .int (-1)), (3, .int v4), (0, .ref (g 11 3)), (1, .int a), (2, .int b)]) hx hb dX1_holding_15 hl (by decide) rfl (fun ls hl => ?_)
  have lp132 : ∀ (nn132 : Nat) (x131_5 : Int32) (x131_4 : Int32) (x131_3 : Int32), 0 ≤ x131_5.toInt ∧ x131_5.toInt ≤ 8 → (-1) ≤ x131_4.toInt → (BestS ((x131_5 : Int32).toInt).toNat (fun r => (n2 r).toInt = 1) (fa 1 0) (fa 1 1) (mX (fa 1 2) (a).toInt) (vI (fa 1 3)) (aF (a).toInt) (x131_3 : Int32).toInt (x131_4 : Int32).toInt) → (x131_5 : Int32).toInt ≤ ((iv 1 7) : Int32).toInt → -1 ≤ (x131_4 : Int32).toInt → 8 - x131_5.toInt < (nn132 : Int) → ∀ (H : Heap) (locs : List Loc), ∀ (ls : Array Slot), va_P (dC, dI) classes (WX h g ca iv lv (u2 fa 1 6 n2) la) H → va_D A (WX h g ca iv lv (u2 fa 1 6 n2) la) → va_S A s.heap H locs → lv_has ls 7 [(5, .int x131_5), (4, .int x131_4), (3, .int x131_3), (0, .ref (g 11 3)), (1, .int a), (2, .int b)] → W p l e ({ frames := 3, cells := 0, slots := 0, locals := 67 } : Room) s m ([.ref (g 11 3), .int a, .int b] : List Value).toArray below meth c H locs 0 0 (MQ below (va_Qi (fun r (u : SS) => ∃ (na_1_6 : Nat → Int32), (∀ j, inb (bA 1 6 j) (na_1_6 j)) ∧ (FoX (iv 1 7).toInt (fa 1 0) (fa 1 1) (fa 1 2) (fa 1 3) a.toInt b.toInt r.toInt) ∧ (True) ∧ u = (iv, lv, (u2 fa 1 6 na_1_6), la)) (bX (dC, dI) h g ca A) A) ([.ref (g 11 3), .int a, .int b] : List Value).toArray s 0 0 A) (F0 m 17 ls []) := by
    intro nn132
    induction nn132 with
    | zero => intro x131_5 x131_4 x131_3 hx131_5 hx131_4 hq132_0 hq132_1 hq132_2 hm132; exfalso; omega
    | succ nn132 ih132 =>
      intro x131_5 x131_4 x131_3 hx131_5 hx131_4 hq132_0 hq132_1 hq132_2 hm132 H locs ls hP hD hS hl
      refine lv_iload hx hb dX1_holding_17 (lv_at hl 0 rfl) ?_
      refine lv_aload_n hx hb dX1_holding_19 rfl (lv_at hl 3 rfl) ?_
      refine gX_1_7 hx hb ht hown hK hP m_196 (v := (iv 1 7)) rfl dX1_holding_20 ?_
      refine lv_icmp_ge (tgt := 86) hx hb dX1_holding_23 (by decide) (fun c133 => ?_) (fun c133 => ?_)
      · have fc133 := z_le (rfl : ((iv 1 7)).toInt = _) (rfl : (x131_5).toInt = _) c133
        refine lv_iload_n hx hb dX1_holding_86 rfl (lv_at hl 2 rfl) ?_
        have hP9 : va_P (dC, dI) classes (WX h g ca iv lv (u2 fa 1 6 n2) la) H := hP
        have hD9 : va_D A (WX h g ca iv lv (u2 fa 1 6 n2) la) := hD
        exact W.iret (v := x131_3) hx hb hr (fun t ht9 hW => ⟨⟨x131_3, (iv, lv, (u2 fa 1 6 n2), la), rfl, ⟨n2, hn2, (show FoX ((iv 1 7) : Int32).toInt (fa 1 0) (fa 1 1) (fa 1 2) (fa 1 3) (a).toInt (b).toInt (x131_3 : Int32).toInt from (by have hq9 := hq132_0; have he9 : (x131_5 : Int32).toInt = (iv 1 7).toInt := (by omega); rw [he9] at hq9; exact ⟨_, _, xr1_0, hq9⟩)), trivial, rfl⟩, by rw [ht9]; exact hP9, hD9⟩, hS.F ht9⟩) hS.2.2 dX1_holding_87
      · have fc133 := z_nle (rfl : ((iv 1 7)).toInt = _) (rfl : (x131_5).toInt = _) c133
        refine lv_aload_n hx hb dX1_holding_26 rfl (lv_at hl 3 rfl) ?_
        refine lv_iload hx hb dX1_holding_27 (lv_at hl 0 rfl) ?_
        refine lv_iload_n hx hb dX1_holding_29 rfl (lv_at hl 4 rfl) ?_
        refine vp_callSi (W.runV (As := [.int x131_5, .int a]) (rest := []) ⟨hx, hb, hml, hown, ht⟩ (c_X1_lastOf_f l dC dI h g ca iv lv (u2 fa 1 6 n2) la (IX_a (c := 1) (k := 6) hI hn2) x131_5 a ⟨by omega, by omega⟩) (kV 2 ht m_618 m_620 m_8 m_81 m_621 rfl rfl hd_X1_lastOf_v ⟨Nat.le_of_ble_eq_true rfl, Nat.le_of_ble_eq_true rfl⟩) (vR hP hK (rX_1 hK hP)) rfl rfl hl.1 rfl (lv_room (Nat.le_of_ble_eq_true rfl)) dX1_holding_30 ⟨Nat.le_of_ble_eq_true rfl, Nat.le_of_ble_eq_true rfl⟩) (fun r134 hr134 => ?_)
        obtain ⟨hr134, xr134_0⟩ := hr134
        have xr134_0 : La (12 * (x131_5 : Int32).toInt) (12 * (x131_5 : Int32).toInt + ((fa 1 1) ((x131_5 : Int32).toInt).toNat).toInt) 0 (mX (fa 1 2) (a : Int32).toInt) (r134 : Int32).toInt := xr134_0
        refine lv_istore (lv' := [(6, .int r134), (5, .int x131_5), (4, .int x131_4), (3, .int x131_3), (0, .ref (g 11 3)), (1, .int a), (2, .int b)]) hx hb dX1_holding_33 hl (by decide) rfl (fun ls hl => ?_)
        refine lv_aload_n hx hb dX1_holding_35 rfl (lv_at hl 4 rfl) ?_
        refine gX_1_6 hx hb ht hown hK hP m_195 dX1_holding_36 ?_
        refine lv_iload hx hb dX1_holding_39 (lv_at hl 1 rfl) ?_
        refine lX_1_6 hx hb hK hP (f := n2) rfl (vp_in_iff.mpr ⟨by omega, by omega⟩) dX1_holding_41 ?_
        refine lv_topi (fun v135 ev135 => ?_)
        have tv135 : 0 ≤ v135.toInt ∧ v135.toInt ≤ 1 := by rw [ev135]; exact hn2 _
        refine lv_if_eq (tgt := 80) hx hb dX1_holding_42 (by decide) (fun c136 => ?_) (fun c136 => ?_)
        · have fc136 := z_eq (rfl : (v135).toInt = _) (by decide : (0 : Int32).toInt = 0) c136
          obtain ⟨v137, ev137⟩ : ∃ y : Int32, y = x131_5 + 1 := ⟨_, rfl⟩
          have tv137 := z_add ev137 rfl (by decide : (1 : Int32).toInt = 1) (by omega) (by omega)
          refine lv_iinc (v := v137) (lv' := [(5, .int v137), (6, .int r134), (4, .int x131_4), (3, .int x131_3), (0, .ref (g 11 3)), (1, .int a), (2, .int b)]) hx hb dX1_holding_80 hl (k := 1) rfl (by rw [ev137]; rfl) (by decide) rfl (fun ls hl => ?_)
          refine lv_goto (tgt := 17) hx hb dX1_holding_83 (by decide) ?_
          exact ih132 v137 x131_4 x131_3 ⟨by omega, by omega⟩ (by omega) (show BestS ((v137 : Int32).toInt).toNat (fun r => (n2 r).toInt = 1) (fa 1 0) (fa 1 1) (mX (fa 1 2) (a).toInt) (vI (fa 1 3)) (aF (a).toInt) (x131_3 : Int32).toInt (x131_4 : Int32).toInt from (by
                have ho9 := congrArg Int32.toInt (show v135 = n2 ((x131_5 : Int32).toInt).toNat from ev135)
                have hl9 := xr134_0
                have hc9 : ((((x131_5 : Int32).toInt).toNat : Nat) : Int) = (x131_5 : Int32).toInt := Int.toNat_of_nonneg (by omega)
                refine BestS_n (show ((v137 : Int32).toInt).toNat = ((x131_5 : Int32).toInt).toNat + 1 from by omega) (fun j h1 h2 h3 => ?_) hq132_0
                have h1 : (n2 ((x131_5 : Int32).toInt).toNat).toInt = 1 := h1
                rcases hl9 with ⟨y1, y2⟩ | ⟨k, y1, y2, y3, y4, y5⟩
                · exact y2 j (by omega) (by omega)
                · exfalso; omega)) (show (v137 : Int32).toInt ≤ ((iv 1 7) : Int32).toInt from by omega) (show -1 ≤ (x131_4 : Int32).toInt from by omega) (by omega) _ _ ls hP hD hS (lv_sub hl [0, 2, 3, 4, 5, 6] rfl)
        · have fc136 := z_ne (rfl : (v135).toInt = _) (by decide : (0 : Int32).toInt = 0) c136
          refine lv_iload hx hb dX1_holding_45 (lv_at hl 0 rfl) ?_
          refine lv_iconst (v := (-1)) hx hb dX1_holding_47 (by decide) ?_
          refine lv_icmp_eq (tgt := 80) hx hb dX1_holding_48 (by decide) (fun c138 => ?_) (fun c138 => ?_)
          · have fc138 := z_eq (rfl : (r134).toInt = _) (by decide : ((-1) : Int32).toInt = (-1)) c138
            obtain ⟨v139, ev139⟩ : ∃ y : Int32, y = x131_5 + 1 := ⟨_, rfl⟩
            have tv139 := z_add ev139 rfl (by decide : (1 : Int32).toInt = 1) (by omega) (by omega)
            refine lv_iinc (v := v139) (lv' := [(5, .int v139), (6, .int r134), (4, .int x131_4), (3, .int x131_3), (0, .ref (g 11 3)), (1, .int a), (2, .int b)]) hx hb dX1_holding_80 hl (k := 1) rfl (by rw [ev139]; rfl) (by decide) rfl (fun ls hl => ?_)
            refine lv_goto (tgt := 17) hx hb dX1_holding_83 (by decide) ?_
            exact ih132 v139 x131_4 x131_3 ⟨by omega, by omega⟩ (by omega) (show BestS ((v139 : Int32).toInt).toNat (fun r => (n2 r).toInt = 1) (fa 1 0) (fa 1 1) (mX (fa 1 2) (a).toInt) (vI (fa 1 3)) (aF (a).toInt) (x131_3 : Int32).toInt (x131_4 : Int32).toInt from (by
                  have ho9 := congrArg Int32.toInt (show v135 = n2 ((x131_5 : Int32).toInt).toNat from ev135)
                  have hl9 := xr134_0
                  have hc9 : ((((x131_5 : Int32).toInt).toNat : Nat) : Int) = (x131_5 : Int32).toInt := Int.toNat_of_nonneg (by omega)
                  refine BestS_n (show ((v139 : Int32).toInt).toNat = ((x131_5 : Int32).toInt).toNat + 1 from by omega) (fun j h1 h2 h3 => ?_) hq132_0
                  have h1 : (n2 ((x131_5 : Int32).toInt).toNat).toInt = 1 := h1
                  rcases hl9 with ⟨y1, y2⟩ | ⟨k, y1, y2, y3, y4, y5⟩
                  · exact y2 j (by omega) (by omega)
                  · exfalso; omega)) (show (v139 : Int32).toInt ≤ ((iv 1 7) : Int32).toInt from by omega) (show -1 ≤ (x131_4 : Int32).toInt from by omega) (by omega) _ _ ls hP hD hS (lv_sub hl [0, 2, 3, 4, 5, 6] rfl)
          · have fc138 := z_ne (rfl : (r134).toInt = _) (by decide : ((-1) : Int32).toInt = (-1)) c138
            refine lv_aload_n hx hb dX1_holding_51 rfl (lv_at hl 4 rfl) ?_
            refine gX_1_0 hx hb ht hown hK hP m_189 dX1_holding_52 ?_
            refine lv_iload hx hb dX1_holding_55 (lv_at hl 1 rfl) ?_
            refine lX_1_0 hx hb hK hP (f := (fa 1 0)) rfl (vp_in_iff.mpr ⟨by omega, by omega⟩) dX1_holding_57 ?_
            refine lv_topi (fun v140 ev140 => ?_)
            refine lv_iload hx hb dX1_holding_58 (lv_at hl 2 rfl) ?_
            refine lv_icmp_lt (tgt := 80) hx hb dX1_holding_60 (by decide) (fun c141 => ?_) (fun c141 => ?_)
            · have fc141 := z_lt (rfl : (v140).toInt = _) (rfl : (x131_4).toInt = _) c141
              obtain ⟨v142, ev142⟩ : ∃ y : Int32, y = x131_5 + 1 := ⟨_, rfl⟩
              have tv142 := z_add ev142 rfl (by decide : (1 : Int32).toInt = 1) (by omega) (by omega)
              refine lv_iinc (v := v142) (lv' := [(5, .int v142), (6, .int r134), (4, .int x131_4), (3, .int x131_3), (0, .ref (g 11 3)), (1, .int a), (2, .int b)]) hx hb dX1_holding_80 hl (k := 1) rfl (by rw [ev142]; rfl) (by decide) rfl (fun ls hl => ?_)
              refine lv_goto (tgt := 17) hx hb dX1_holding_83 (by decide) ?_
              exact ih132 v142 x131_4 x131_3 ⟨by omega, by omega⟩ (by omega) (show BestS ((v142 : Int32).toInt).toNat (fun r => (n2 r).toInt = 1) (fa 1 0) (fa 1 1) (mX (fa 1 2) (a).toInt) (vI (fa 1 3)) (aF (a).toInt) (x131_3 : Int32).toInt (x131_4 : Int32).toInt from (by
                    have ho9 := congrArg Int32.toInt (show v135 = n2 ((x131_5 : Int32).toInt).toNat from ev135)
                    have hl9 := xr134_0
                    have hc9 : ((((x131_5 : Int32).toInt).toNat : Nat) : Int) = (x131_5 : Int32).toInt := Int.toNat_of_nonneg (by omega)
                    have hd9 := congrArg Int32.toInt (show v140 = fa 1 0 ((x131_5 : Int32).toInt).toNat from ev140)
                    exact BestS_o (show ((v142 : Int32).toInt).toNat = ((x131_5 : Int32).toInt).toNat + 1 from by omega) (hJB ((x131_5 : Int32).toInt).toNat (by omega)) (by omega) hq132_0)) (show (v142 : Int32).toInt ≤ ((iv 1 7) : Int32).toInt from by omega) (show -1 ≤ (x131_4 : Int32).toInt from by omega) (by omega) _ _ ls hP hD hS (lv_sub hl [0, 2, 3, 4, 5, 6] rfl)
            · have fc141 := z_nlt (rfl : (v140).toInt = _) (rfl : (x131_4).toInt = _) c141
              refine lv_aload_n hx hb dX1_holding_63 rfl (lv_at hl 4 rfl) ?_
              refine gX_1_3 hx hb ht hown hK hP m_192 dX1_holding_64 ?_
              refine lv_iload hx hb dX1_holding_67 (lv_at hl 0 rfl) ?_
              refine lX_1_3 hx hb hK hP (f := (fa 1 3)) rfl (vp_in_iff.mpr ⟨by omega, by omega⟩) dX1_holding_69 ?_
              refine lv_topi (fun v143 ev143 => ?_)
              refine lv_istore_n (lv' := [(3, .int v143), (6, .int r134), (5, .int x131_5), (4, .int x131_4), (0, .ref (g 11 3)), (1, .int a), (2, .int b)]) hx hb dX1_holding_70 rfl hl (by decide) rfl (fun ls hl => ?_)
              refine lv_aload_n hx hb dX1_holding_71 rfl (lv_at hl 4 rfl) ?_
              refine gX_1_0 hx hb ht hown hK hP m_189 dX1_holding_72 ?_
              refine lv_iload hx hb dX1_holding_75 (lv_at hl 2 rfl) ?_
              refine lX_1_0 hx hb hK hP (f := (fa 1 0)) rfl (vp_in_iff.mpr ⟨by omega, by omega⟩) dX1_holding_77 ?_
              refine lv_topi (fun v144 ev144 => ?_)
              obtain rfl : v140 = v144 := ev140.trans ev144.symm
              refine lv_istore (lv' := [(4, .int v140), (3, .int v143), (6, .int r134), (5, .int x131_5), (0, .ref (g 11 3)), (1, .int a), (2, .int b)]) hx hb dX1_holding_78 hl (by decide) rfl (fun ls hl => ?_)
              obtain ⟨v145, ev145⟩ : ∃ y : Int32, y = x131_5 + 1 := ⟨_, rfl⟩
              have tv145 := z_add ev145 rfl (by decide : (1 : Int32).toInt = 1) (by omega) (by omega)
              refine lv_iinc (v := v145) (lv' := [(5, .int v145), (4, .int v140), (3, .int v143), (6, .int r134), (0, .ref (g 11 3)), (1, .int a), (2, .int b)]) hx hb dX1_holding_80 hl (k := 3) rfl (by rw [ev145]; rfl) (by decide) rfl (fun ls hl => ?_)
              refine lv_goto (tgt := 17) hx hb dX1_holding_83 (by decide) ?_
              exact ih132 v145 v140 v143 ⟨by omega, by omega⟩ (by omega) (show BestS ((v145 : Int32).toInt).toNat (fun r => (n2 r).toInt = 1) (fa 1 0) (fa 1 1) (mX (fa 1 2) (a).toInt) (vI (fa 1 3)) (aF (a).toInt) (v143 : Int32).toInt (v140 : Int32).toInt from (by
                    have ho9 := congrArg Int32.toInt (show v135 = n2 ((x131_5 : Int32).toInt).toNat from ev135)
                    have hl9 := xr134_0
                    have hc9 : ((((x131_5 : Int32).toInt).toNat : Nat) : Int) = (x131_5 : Int32).toInt := Int.toNat_of_nonneg (by omega)
                    have hd9 := congrArg Int32.toInt (show v140 = fa 1 0 ((x131_5 : Int32).toInt).toNat from ev140)
                    rcases hl9 with ⟨y1, y2⟩ | ⟨k, y1, y2, y3, y4, y5⟩
                    · exfalso; omega
                    · exact BestS_y (j := k) (show ((v145 : Int32).toInt).toNat = ((x131_5 : Int32).toInt).toNat + 1 from by omega) (show (n2 ((x131_5 : Int32).toInt).toNat).toInt = 1 from by omega) (by omega) (by omega) y4 (fun j' h1 h2 => y5 j' h1 (by omega)) (by omega) (show (v143 : Int32).toInt = (fa 1 3 k).toInt from by rw [show k = ((r134 : Int32).toInt).toNat from by omega]; exact congrArg Int32.toInt ev143) (by omega) hq132_0)) (show (v145 : Int32).toInt ≤ ((iv 1 7) : Int32).toInt from by omega) (show -1 ≤ (v140 : Int32).toInt from by omega) (by omega) _ _ ls hP hD hS (lv_sub hl [0, 1, 2, 4, 5, 6] rfl)
  have : (0 : Int32).toInt = 0 := (by decide)
  have : ((-1) : Int32).toInt = (-1) := (by decide)
  exact lp132 9 0 (-1) v4 ⟨by decide, by decide⟩ (by decide) (show BestS ((0 : Int32).toInt).toNat (fun r => (n2 r).toInt = 1) (fa 1 0) (fa 1 1) (mX (fa 1 2) (a).toInt) (vI (fa 1 3)) (aF (a).toInt) (v4 : Int32).toInt ((-1) : Int32).toInt from (by rw [show ((0 : Int32).toInt).toNat = 0 from by decide, hf9]; exact BestS_0)) (show (0 : Int32).toInt ≤ ((iv 1 7) : Int32).toInt from by omega) (show -1 ≤ ((-1) : Int32).toInt from by omega) (by first | decide | omega) _ _ ls hP hD hS (lv_sub hl [0, 1, 2, 3, 4, 5] rfl)
set_option maxHeartbeats 4000000 in
set_option maxRecDepth 100000 in
/-- X11_force -/
theorem c_X11_force_f (l : Launch) (dC : Nat → ClassId) (dI : Nat → Nat → Nat) (sz : Nat) (ak av : Nat → Nat) (h : Nat) (g : Nat → Nat → Nat) (ca : Nat → Nat → ClassId) (iv : Nat → Nat → Int32) (lv : Nat → Nat → Int64) (fa : Nat → Nat → Nat → Int32) (la : Nat → Nat → Nat → Int64) (hI : IX iv fa) (a : Int32) (b : Int32) (hJB : ∀ j : Nat, (j : Int) < (iv 1 7).toInt → 0 ≤ (fa 1 0 j).toInt) : Met l yX11_force (wc yX11_force cX11_force 3 (some .int)) ({ frames := 4, cells := 0, slots := 0, locals := 93 } : Room) (pWZ ak av (dC, dI) classes (WX h g ca iv lv fa la) (TX ca) sz [.ref h, .int a, .int b]) (va_Qi (fun r (u : SS) => ∃ (na_1_6 : Nat → Int32), (∀ j, inb (bA 1 6 j) (na_1_6 j)) ∧ (((r.toInt = -100002 ∧ ¬ (0 ≤ a.toInt ∧ a.toInt ≤ 5 ∧ 0 ≤ b.toInt ∧ b.toInt ≤ 3000)) ∨ ((0 ≤ a.toInt ∧ a.toInt ≤ 5 ∧ 0 ≤ b.toInt ∧ b.toInt ≤ 3000) ∧ FoX (iv 1 7).toInt (fa 1 0) (fa 1 1) (fa 1 2) (fa 1 3) a.toInt b.toInt r.toInt))) ∧ (True) ∧ u = (iv, lv, (u2 fa 1 6 na_1_6), la)) (bX (dC, dI) h g ca (va_A (WX h g ca iv lv fa la) sz)) (va_A (WX h g ca iv lv fa la) sz)) 0 0 (va_A (WX h g ca iv lv fa la) sz) := by
  refine Met.ofW (cc := cX11_force) (maxL := 3) (ret := (some .int)) (by decide) rfl ?_
  intro p e s m args below meth c s₁ B hml hv
  obtain ⟨rfl, hsz, hP, hK, hD0, hZ⟩ := hv
  have hx := B.exec
  have hb := B.bytes
  have hr := B.returns
  have ht := tb_tl (atoms_spec (ws := wc yX11_force cX11_force 3 (some .int)) B.pre)
  have hown : s.vm.findClass RX11 = some m.cls := findClass_of_methodNamed B.named
  have hlocks := B.notSynchronized
  subst hsz
  have hD := hD0.self (sz := s.heap.size)
  generalize hAe : va_A (WX h g ca iv lv fa la) s.heap.size = A at hD hZ ⊢
  have hA : ∀ q : Nat, s.heap.size ≤ q → A q := fun q h => by rw [← hAe]; exact Or.inr h
  have hS : va_S A s.heap s.heap [] := va_S.rf
  have hl := lv_entry [.ref h, .int a, .int b] (n := 3) (Nat.le_of_ble_eq_true rfl)
  rw [lg_entry_eq]
  generalize (lg_sl [.ref h, .int a, .int b] ++ List.replicate (3 - (lg_sl [.ref h, .int a, .int b]).length) Slot.unset).toArray = ls at hl ⊢
  have hl : lv_has ls 3 [(0, .ref h), (1, .int a), (2, .int b)] := hl
  refine lv_iload_n hx hb dX11_force_0 rfl (lv_at hl 1 rfl) ?_
  refine lv_iconst (v := 0) hx hb dX11_force_1 (by decide) ?_
  refine lv_iconst (v := 5) hx hb dX11_force_2 (by decide) ?_
  refine vp_callSi (W.runS (As := [.int a, .int 0, .int 5]) (rest := []) ⟨hx, hb, hml, hown, ht⟩ (c_X11_within l dC dI a 0 5 (a.toInt) (0) (5) (rfl : (a).toInt = _) (by decide : (0 : Int32).toInt = 0) (by decide : (5 : Int32).toInt = 5)) (kS 3 ht m_453 m_454 m_77 m_455 rfl rfl hd_X11_within_v ⟨Nat.le_of_ble_eq_true rfl, Nat.le_of_ble_eq_true rfl⟩) (sR noP (hK.sub (tys' := []) [] rfl)) rfl rfl hl.1 rfl (lv_room (Nat.le_of_ble_eq_true rfl)) dX11_force_3 ⟨Nat.le_of_ble_eq_true rfl, Nat.le_of_ble_eq_true rfl⟩) (fun r1 hr1 => ?_)
  rcases hr1 with ⟨rfl, fr1⟩ | ⟨rfl, fr1⟩
  · skip
    refine lv_if_eq (tgt := 20) hx hb dX11_force_6 (by decide) (fun c2 => ?_) (fun c2 => ?_)
    · exact absurd c2 (by decide)
    · skip
      refine lv_iload_n hx hb dX11_force_9 rfl (lv_at hl 2 rfl) ?_
      refine lv_iconst (v := 0) hx hb dX11_force_10 (by decide) ?_
      refine lv_sipush (v := 3000) hx hb dX11_force_11 (by decide) ?_
      refine vp_callSi (W.runS (As := [.int b, .int 0, .int 3000]) (rest := []) ⟨hx, hb, hml, hown, ht⟩ (c_X11_within l dC dI b 0 3000 (b.toInt) (0) (3000) (rfl : (b).toInt = _) (by decide : (0 : Int32).toInt = 0) (by decide : (3000 : Int32).toInt = 3000)) (kS 3 ht m_453 m_454 m_77 m_455 rfl rfl hd_X11_within_v ⟨Nat.le_of_ble_eq_true rfl, Nat.le_of_ble_eq_true rfl⟩) (sR noP (hK.sub (tys' := []) [] rfl)) rfl rfl hl.1 rfl (lv_room (Nat.le_of_ble_eq_true rfl)) dX11_force_14 ⟨Nat.le_of_ble_eq_true rfl, Nat.le_of_ble_eq_true rfl⟩) (fun r3 hr3 => ?_)
      rcases hr3 with ⟨rfl, fr3⟩ | ⟨rfl, fr3⟩
      · skip
        refine lv_if_ne (tgt := 23) hx hb dX11_force_17 (by decide) (fun c4 => ?_) (fun c4 => ?_)
        · skip
          refine lv_aload_n hx hb dX11_force_23 rfl (lv_at hl 0 rfl) ?_
          refine gX_11_3 hx hb ht hown hK hP m_418 dX11_force_24 ?_
          refine lv_iload_n hx hb dX11_force_27 rfl (lv_at hl 1 rfl) ?_
          refine lv_iload_n hx hb dX11_force_28 rfl (lv_at hl 2 rfl) ?_
          have hFc := free_all hD hS hA
          refine va_calli (va_runV (As := [.int a, .int b]) (rest := []) ⟨hx, hb, hml, hown, ht⟩ (c_X1_holding_f l dC dI s.heap.size ak av h g ca iv lv fa la hI a b ⟨by omega, by omega⟩ hJB) (kV 2 ht m_667 m_601 m_602 m_81 m_603 rfl rfl hd_X1_holding_v ⟨Nat.le_of_ble_eq_true rfl, Nat.le_of_ble_eq_true rfl⟩) (vWZ hP hK hD ((hZ.kept hS.2.1).narrow (free_all hD hS hA)) (rX_1 hK hP)) rfl rfl hl.1 rfl (lv_room (Nat.le_of_ble_eq_true rfl)) dX11_force_29 ⟨Nat.le_of_ble_eq_true rfl, Nat.le_of_ble_eq_true rfl⟩) hS (fun q _ h => hFc q h) hFc (fun r5 u t H1 locs ht9 hvm hr5 hB hz1 hk1 hS => ?_)
          obtain ⟨n6, hn6, xr5_0, hr5, rfl⟩ := hr5
          obtain ⟨hP, hD⟩ := hB
          rw [ht9] at hP
          generalize H1 = H at hP hS ⊢
          have hP : va_P (dC, dI) classes (WX h g ca iv lv (u2 fa 1 6 n6) la) H := hP
          have hD : va_D A (WX h g ca iv lv (u2 fa 1 6 n6) la) := (show va_D _ (WX h g ca iv lv (u2 fa 1 6 n6) la) from hD).weaken (fun _ _ _ h => hFc _ h)
          have i_1_7 : 0 ≤ (iv 1 7).toInt ∧ (iv 1 7).toInt ≤ 8 := hI.1 1 7
          have xr5_0 : FoX ((iv 1 7) : Int32).toInt (fa 1 0) (fa 1 1) (fa 1 2) (fa 1 3) (a : Int32).toInt (b : Int32).toInt (r5 : Int32).toInt := xr5_0
          have hP9 : va_P (dC, dI) classes (WX h g ca iv lv (u2 fa 1 6 n6) la) H := hP
          have hD9 : va_D A (WX h g ca iv lv (u2 fa 1 6 n6) la) := hD
          exact W.iret (v := r5) hx hb hr (fun t ht9 hW => ⟨⟨r5, (iv, lv, (u2 fa 1 6 n6), la), rfl, ⟨n6, hn6, (show (((r5 : Int32).toInt = -100002 ∧ ¬ (0 ≤ (a).toInt ∧ (a).toInt ≤ 5 ∧ 0 ≤ (b).toInt ∧ (b).toInt ≤ 3000)) ∨ ((0 ≤ (a).toInt ∧ (a).toInt ≤ 5 ∧ 0 ≤ (b).toInt ∧ (b).toInt ≤ 3000) ∧ FoX (iv 1 7).toInt (fa 1 0) (fa 1 1) (fa 1 2) (fa 1 3) (a).toInt (b).toInt (r5 : Int32).toInt)) from Or.inr ⟨⟨by omega, by omega, by omega, by omega⟩, xr5_0⟩), trivial, rfl⟩, by rw [ht9]; exact hP9, hD9⟩, hS.F ht9⟩) hS.2.2 dX11_force_32
        · exact absurd c4 (by decide)
      · skip
        refine lv_if_ne (tgt := 23) hx hb dX11_force_17 (by decide) (fun c7 => ?_) (fun c7 => ?_)
        · exact absurd rfl c7
        · skip
          refine lv_ldc hx hb hown (ht _ m_456) dX11_force_20 ?_
          have : ((-100002) : Int32).toInt = (-100002) := (by decide)
          have hP9 : va_P (dC, dI) classes (WX h g ca iv lv (u2 fa 1 6 (fa 1 6)) la) s.heap := hP
          have hD9 : va_D A (WX h g ca iv lv (u2 fa 1 6 (fa 1 6)) la) := hD
          exact W.iret (v := (-100002)) hx hb hr (fun t ht9 hW => ⟨⟨(-100002), (iv, lv, (u2 fa 1 6 (fa 1 6)), la), rfl, ⟨(fa 1 6), (hI.2 1 6), (show ((((-100002) : Int32).toInt = -100002 ∧ ¬ (0 ≤ (a).toInt ∧ (a).toInt ≤ 5 ∧ 0 ≤ (b).toInt ∧ (b).toInt ≤ 3000)) ∨ ((0 ≤ (a).toInt ∧ (a).toInt ≤ 5 ∧ 0 ≤ (b).toInt ∧ (b).toInt ≤ 3000) ∧ FoX (iv 1 7).toInt (fa 1 0) (fa 1 1) (fa 1 2) (fa 1 3) (a).toInt (b).toInt ((-100002) : Int32).toInt)) from Or.inl ⟨by omega, by omega⟩), trivial, rfl⟩, by rw [ht9]; exact hP9, hD9⟩, hS.F ht9⟩) hS.2.2 dX11_force_22
  · skip
    refine lv_if_eq (tgt := 20) hx hb dX11_force_6 (by decide) (fun c8 => ?_) (fun c8 => ?_)
    · skip
      refine lv_ldc hx hb hown (ht _ m_456) dX11_force_20 ?_
      have : ((-100002) : Int32).toInt = (-100002) := (by decide)
      have hP9 : va_P (dC, dI) classes (WX h g ca iv lv (u2 fa 1 6 (fa 1 6)) la) s.heap := hP
      have hD9 : va_D A (WX h g ca iv lv (u2 fa 1 6 (fa 1 6)) la) := hD
      exact W.iret (v := (-100002)) hx hb hr (fun t ht9 hW => ⟨⟨(-100002), (iv, lv, (u2 fa 1 6 (fa 1 6)), la), rfl, ⟨(fa 1 6), (hI.2 1 6), (show ((((-100002) : Int32).toInt = -100002 ∧ ¬ (0 ≤ (a).toInt ∧ (a).toInt ≤ 5 ∧ 0 ≤ (b).toInt ∧ (b).toInt ≤ 3000)) ∨ ((0 ≤ (a).toInt ∧ (a).toInt ≤ 5 ∧ 0 ≤ (b).toInt ∧ (b).toInt ≤ 3000) ∧ FoX (iv 1 7).toInt (fa 1 0) (fa 1 1) (fa 1 2) (fa 1 3) (a).toInt (b).toInt ((-100002) : Int32).toInt)) from Or.inl ⟨by omega, by omega⟩), trivial, rfl⟩, by rw [ht9]; exact hP9, hD9⟩, hS.F ht9⟩) hS.2.2 dX11_force_22
    · exact absurd rfl c8
