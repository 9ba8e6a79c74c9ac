/-! ===== pa9 ===== -/
set_option maxHeartbeats 4000000 in
set_option maxRecDepth 100000 in
/-- X12_undo -/
theorem c_X12_undo_w (l : Launch) (dC : Nat → ClassId) (dI : Nat → Nat → Nat) (sz : Nat) (h : Nat) (g : Nat → Nat → Nat) (ca : Nat → Nat → ClassId) (iv : Nat → Nat → Int32) (lv : Nat → Nat → Int64) (fa : Nat → Nat → Nat → Int32) (la : Nat → Nat → Nat → Int64) (hI : IX iv fa) (a : Int32) (hJQ : ∀ p : Nat, (p : Int) < (iv 12 67).toInt → 0 ≤ (la 12 70 p).toInt ∧ ((fa 12 68 p).toInt = 0 → (la 12 70 p).toInt ≤ 129998) ∧ (la 12 70 p).toInt ≤ 129868002 ∧ -1 ≤ (fa 12 71 p).toInt ∧ (fa 12 71 p).toInt < (p : Int)) : Met l yX12_undo (wc yX12_undo cX12_undo 6 (some .int)) ({ frames := 2, cells := 0, slots := 0, locals := 46 } : Room) (pW (dC, dI) classes (WM h g ca iv lv fa la) (TM ca) sz [.ref h, .int a]) (va_Qi (fun r (u : SS) => ∃ (na_12_73 : Nat → Int32), (((r.toInt = -100001 ∧ ¬ (0 ≤ a.toInt ∧ a.toInt < (iv 12 67).toInt) ∧ ∀ j : Nat, na_12_73 j = (fa 12 73) j) ∨ (r.toInt = -100003 ∧ (0 ≤ a.toInt ∧ a.toInt < (iv 12 67).toInt) ∧ ¬ StY (fa 12 68) (fa 12 73) (a.toInt).toNat ∧ ∀ j : Nat, na_12_73 j = (fa 12 73) j) ∨ ((0 ≤ a.toInt ∧ a.toInt < (iv 12 67).toInt) ∧ StY (fa 12 68) (fa 12 73) (a.toInt).toNat ∧ ∃ T : Nat → Prop, Fa (iv 12 67).toInt (fa 12 71) (a.toInt).toNat T ∧ (∀ q : Nat, ((T q ∧ ((fa 12 73) q).toInt < 0) → na_12_73 q = (iv 12 0)) ∧ (¬ (T q ∧ ((fa 12 73) q).toInt < 0) → na_12_73 q = (fa 12 73) q)) ∧ r.toInt = (smC (fun q : Nat => T q ∧ ((fa 12 73) q).toInt < 0) ((iv 12 67).toInt).toNat).toInt))) ∧ (True) ∧ u = (iv, lv, (u2 fa 12 73 na_12_73), la)) (bM (dC, dI) h g ca (va_A (WM h g ca iv lv fa la) sz)) (va_A (WM h g ca iv lv fa la) sz)) 0 0 (va_A (WM h g ca iv lv fa la) sz) := by
  refine Met.ofW (cc := cX12_undo) (maxL := 6) (ret := (some .int)) (by decide) rfl ?_
  intro p e s m args below meth c s₁ B hml hv
  obtain ⟨rfl, hsz, hP, hK, hD0⟩ := hv
  have hx := B.exec
  have hb := B.bytes
  have hr := B.returns
  have ht := tb_tl (atoms_spec (ws := wc yX12_undo cX12_undo 6 (some .int)) B.pre)
  have hown : s.vm.findClass RX12 = some m.cls := findClass_of_methodNamed B.named
  have hlocks := B.notSynchronized
  subst hsz
  have hD := hD0.self (sz := s.heap.size)
  generalize hAe : va_A (WM h g ca iv lv fa la) s.heap.size = A at hD ⊢
  have hA : ∀ q : Nat, s.heap.size ≤ q → A q := fun q h => by rw [← hAe]; exact Or.inr h
  have hS : va_S A s.heap s.heap [] := va_S.rf
  have hl := lv_entry [.ref h, .int a] (n := 6) (Nat.le_of_ble_eq_true rfl)
  rw [lg_entry_eq]
  generalize (lg_sl [.ref h, .int a] ++ List.replicate (6 - (lg_sl [.ref h, .int a]).length) Slot.unset).toArray = ls at hl ⊢
  have hl : lv_has ls 6 [(0, .ref h), (1, .int a)] := hl
  refine lv_aload_n hx hb dX12_undo_0 rfl (lv_at hl 0 rfl) ?_
  refine lv_iload_n hx hb dX12_undo_1 rfl (lv_at hl 1 rfl) ?_
  refine vp_callSi (W.runV (As := [.int a]) (rest := []) ⟨hx, hb, hml, hown, ht⟩ (c_X12_noPaper l dC dI h g ca iv lv fa la hI a) (kV 1 ht m_1684 m_1686 m_73 m_89 m_1687 rfl rfl hd_X12_noPaper_v ⟨Nat.le_of_ble_eq_true rfl, Nat.le_of_ble_eq_true rfl⟩) (vR hP hK (rM_12 hK hP)) rfl rfl hl.1 rfl (lv_room (Nat.le_of_ble_eq_true rfl)) dX12_undo_2 ⟨Nat.le_of_ble_eq_true rfl, Nat.le_of_ble_eq_true rfl⟩) (fun r1 hr1 => ?_)
  rcases hr1 with ⟨rfl, fr1⟩ | ⟨rfl, fr1⟩
  · skip
    have i_12_67 : 0 ≤ (iv 12 67).toInt ∧ (iv 12 67).toInt ≤ 40 := hI.1 12 67
    have fr1 : ¬ (0 ≤ (a : Int32).toInt ∧ (a : Int32).toInt < ((iv 12 67) : Int32).toInt) := fr1
    refine lv_if_eq (tgt := 11) hx hb dX12_undo_5 (by decide) (fun c2 => ?_) (fun c2 => ?_)
    · exact absurd c2 (by decide)
    · skip
      refine lv_ldc hx hb hown (ht _ m_1389) dX12_undo_8 ?_
      have : ((-100001) : Int32).toInt = (-100001) := (by decide)
      have hP9 : va_P (dC, dI) classes (WM h g ca iv lv (u2 fa 12 73 (fa 12 73)) la) s.heap := hP
      have hD9 : va_D A (WM h g ca iv lv (u2 fa 12 73 (fa 12 73)) la) := hD
      exact W.iret (v := (-100001)) hx hb hr (fun t ht9 hW => ⟨⟨(-100001), (iv, lv, (u2 fa 12 73 (fa 12 73)), la), rfl, ⟨(fa 12 73), (show ((((-100001) : Int32).toInt = -100001 ∧ ¬ (0 ≤ (a).toInt ∧ (a).toInt < (iv 12 67).toInt) ∧ ∀ j : Nat, (fa 12 73) j = (fa 12 73) j) ∨ (((-100001) : Int32).toInt = -100003 ∧ (0 ≤ (a).toInt ∧ (a).toInt < (iv 12 67).toInt) ∧ ¬ StY (fa 12 68) (fa 12 73) ((a).toInt).toNat ∧ ∀ j : Nat, (fa 12 73) j = (fa 12 73) j) ∨ ((0 ≤ (a).toInt ∧ (a).toInt < (iv 12 67).toInt) ∧ StY (fa 12 68) (fa 12 73) ((a).toInt).toNat ∧ ∃ T : Nat → Prop, Fa (iv 12 67).toInt (fa 12 71) ((a).toInt).toNat T ∧ (∀ q : Nat, ((T q ∧ ((fa 12 73) q).toInt < 0) → (fa 12 73) q = (iv 12 0)) ∧ (¬ (T q ∧ ((fa 12 73) q).toInt < 0) → (fa 12 73) q = (fa 12 73) q)) ∧ ((-100001) : Int32).toInt = (smC (fun q : Nat => T q ∧ ((fa 12 73) q).toInt < 0) ((iv 12 67).toInt).toNat).toInt)) from Or.inl ⟨by omega, by omega, fun j => rfl⟩), trivial, rfl⟩, by rw [ht9]; exact hP9, hD9⟩, hS.F ht9⟩) hS.2.2 dX12_undo_10
  · skip
    have i_12_67 : 0 ≤ (iv 12 67).toInt ∧ (iv 12 67).toInt ≤ 40 := hI.1 12 67
    have fr1 : (0 ≤ (a : Int32).toInt ∧ (a : Int32).toInt < ((iv 12 67) : Int32).toInt) := Decidable.not_not.mp fr1
    refine lv_if_eq (tgt := 11) hx hb dX12_undo_5 (by decide) (fun c3 => ?_) (fun c3 => ?_)
    · skip
      refine lv_aload_n hx hb dX12_undo_11 rfl (lv_at hl 0 rfl) ?_
      refine lv_iload_n hx hb dX12_undo_12 rfl (lv_at hl 1 rfl) ?_
      refine vp_callSi (W.runV (As := [.int a]) (rest := []) ⟨hx, hb, hml, hown, ht⟩ (c_X12_stands_w l dC dI h g ca iv lv fa la hI a ⟨by omega, by omega⟩) (kV 1 ht m_1688 m_1690 m_74 m_89 m_1691 rfl rfl hd_X12_stands_v ⟨Nat.le_of_ble_eq_true rfl, Nat.le_of_ble_eq_true rfl⟩) (vR hP hK (rM_12 hK hP)) rfl rfl hl.1 rfl (lv_room (Nat.le_of_ble_eq_true rfl)) dX12_undo_13 ⟨Nat.le_of_ble_eq_true rfl, Nat.le_of_ble_eq_true rfl⟩) (fun r4 hr4 => ?_)
      obtain ⟨hr4, xr4_0⟩ := hr4
      have xr4_0 : (((r4 : Int32).toInt = 1 ∧ StY (fa 12 68) (fa 12 73) ((a : Int32).toInt).toNat) ∨ ((r4 : Int32).toInt = 0 ∧ ¬ StY (fa 12 68) (fa 12 73) ((a : Int32).toInt).toNat)) := xr4_0
      refine lv_if_ne (tgt := 22) hx hb dX12_undo_16 (by decide) (fun c5 => ?_) (fun c5 => ?_)
      · have fc5 := z_ne (rfl : (r4).toInt = _) (by decide : (0 : Int32).toInt = 0) c5
        refine lv_aload_n hx hb dX12_undo_22 rfl (lv_at hl 0 rfl) ?_
        refine gM_12_73 hx hb ht hown hK hP m_1212 dX12_undo_23 ?_
        refine lv_iload_n hx hb dX12_undo_26 rfl (lv_at hl 1 rfl) ?_
        refine lv_aload_n hx hb dX12_undo_27 rfl (lv_at hl 0 rfl) ?_
        have i_12_0 : 0 ≤ (iv 12 0).toInt ∧ (iv 12 0).toInt ≤ 3000 := hI.1 12 0
        refine gM_12_0 hx hb ht hown hK hP m_1139 (v := (iv 12 0)) rfl dX12_undo_28 ?_
        refine tM_12_73 hx hb hK hP hD hS (f0 := (fa 12 73)) rfl (i := a) (x := (iv 12 0)) (vp_in_iff.mpr ⟨by omega, by omega⟩) dX12_undo_31 (fun f6 ef6 H locs hP hD hS => ?_)
        have hf6 : ∀ j, inb (bA 12 73 j) (f6 j) := fun j => full_i _
        refine lv_iconst (v := 1) hx hb dX12_undo_32 (by decide) ?_
        refine lv_istore_n (lv' := [(2, .int 1), (0, .ref h), (1, .int a)]) hx hb dX12_undo_33 rfl hl (by decide) rfl (fun ls hl => ?_)
        refine lv_lconst (v := 1) hx hb dX12_undo_34 (by decide) ?_
        refine lv_iload_n hx hb dX12_undo_35 rfl (lv_at hl 2 rfl) ?_
        obtain ⟨w7, ew7⟩ : ∃ y : Int64, 1 <<< ((a : Int32).toInt64 &&& 63) = y := ⟨_, rfl⟩
        refine lv_lshl (v := w7) hx hb dX12_undo_36 ew7 ?_
        refine lv_lstore_n (lv' := [(3, .long w7), (2, .int 1), (0, .ref h), (1, .int a)]) hx hb dX12_undo_37 rfl hl (by decide) rfl (fun ls hl => ?_)
        refine lv_iload_n hx hb dX12_undo_38 rfl (lv_at hl 3 rfl) ?_
        refine lv_iconst (v := 1) hx hb dX12_undo_39 (by decide) ?_
        refine lv_iadd hx hb dX12_undo_40 ?_
        refine lv_topi (fun v8 ev8 => ?_)
        have tv8 := z_add ev8 (rfl : (a).toInt = _) (by decide : (1 : Int32).toInt = 1) (by omega) (by omega)
        refine lv_istore (lv' := [(5, .int v8), (3, .long w7), (2, .int 1), (0, .ref h), (1, .int a)]) hx hb dX12_undo_41 hl (by decide) rfl (fun ls hl => ?_)
        have lp1438 : ∀ (nn1438 : Nat) (x1437_5 : Int32) (x1437_3 : Int64) (x1437_2 : Int32) (w1437_a_12_73 : Nat → Int32), 1 ≤ x1437_5.toInt ∧ x1437_5.toInt ≤ 40 → (∀ j, inb (bA 12 73 j) (w1437_a_12_73 j)) → (Gn (fa 12 71) (fa 12 73) ((a).toInt).toNat (iv 12 0) (x1437_3 : Int64) w1437_a_12_73 ((x1437_5 : Int32).toInt).toNat (x1437_2 : Int32)) → (a).toInt < (x1437_5 : Int32).toInt → (x1437_5 : Int32).toInt ≤ ((iv 12 67) : Int32).toInt → 40 - x1437_5.toInt < (nn1438 : Int) → ∀ (H : Heap) (locs : List Loc), ∀ (ls : Array Slot), va_P (dC, dI) classes (WM h g ca iv lv (u2 fa 12 73 w1437_a_12_73) la) H → va_D A (WM h g ca iv lv (u2 fa 12 73 w1437_a_12_73) la) → va_S A s.heap H locs → lv_has ls 6 [(5, .int x1437_5), (3, .long x1437_3), (2, .int x1437_2), (0, .ref h), (1, .int a)] → W p l e ({ frames := 2, cells := 0, slots := 0, locals := 46 } : Room) s m ([.ref h, .int a] : List Value).toArray below meth c H locs 0 0 (MQ below (va_Qi (fun r (u : SS) => ∃ (na_12_73 : Nat → Int32), (((r.toInt = -100001 ∧ ¬ (0 ≤ a.toInt ∧ a.toInt < (iv 12 67).toInt) ∧ ∀ j : Nat, na_12_73 j = (fa 12 73) j) ∨ (r.toInt = -100003 ∧ (0 ≤ a.toInt ∧ a.toInt < (iv 12 67).toInt) ∧ ¬ StY (fa 12 68) (fa 12 73) (a.toInt).toNat ∧ ∀ j : Nat, na_12_73 j = (fa 12 73) j) ∨ ((0 ≤ a.toInt ∧ a.toInt < (iv 12 67).toInt) ∧ StY (fa 12 68) (fa 12 73) (a.toInt).toNat ∧ ∃ T : Nat → Prop, Fa (iv 12 67).toInt (fa 12 71) (a.toInt).toNat T ∧ (∀ q : Nat, ((T q ∧ ((fa 12 73) q).toInt < 0) → na_12_73 q = (iv 12 0)) ∧ (¬ (T q ∧ ((fa 12 73) q).toInt < 0) → na_12_73 q = (fa 12 73) q)) ∧ r.toInt = (smC (fun q : Nat => T q ∧ ((fa 12 73) q).toInt < 0) ((iv 12 67).toInt).toNat).toInt))) ∧ (True) ∧ u = (iv, lv, (u2 fa 12 73 na_12_73), la)) (bM (dC, dI) h g ca A) A) ([.ref h, .int a] : List Value).toArray s 0 0 A) (F0 m 43 ls []) := by
          intro nn1438
          induction nn1438 with
          | zero => intro x1437_5 x1437_3 x1437_2 w1437_a_12_73 hx1437_5 hw1437_a_12_73 hq1438_0 hq1438_1 hq1438_2 hm1438; exfalso; omega
          | succ nn1438 ih1438 =>
            intro x1437_5 x1437_3 x1437_2 w1437_a_12_73 hx1437_5 hw1437_a_12_73 hq1438_0 hq1438_1 hq1438_2 hm1438 H locs ls hP hD hS hl
            refine lv_iload hx hb dX12_undo_43 (lv_at hl 0 rfl) ?_
            refine lv_aload_n hx hb dX12_undo_45 rfl (lv_at hl 3 rfl) ?_
            refine gM_12_67 hx hb ht hown hK hP m_1206 (v := (iv 12 67)) rfl dX12_undo_46 ?_
            refine lv_icmp_ge (tgt := 143) hx hb dX12_undo_49 (by decide) (fun c1439 => ?_) (fun c1439 => ?_)
            · have fc1439 := z_le (rfl : ((iv 12 67)).toInt = _) (rfl : (x1437_5).toInt = _) c1439
              refine lv_iload_n hx hb dX12_undo_143 rfl (lv_at hl 2 rfl) ?_
              have hP9 : va_P (dC, dI) classes (WM h g ca iv lv (u2 fa 12 73 w1437_a_12_73) la) H := hP
              have hD9 : va_D A (WM h g ca iv lv (u2 fa 12 73 w1437_a_12_73) la) := hD
              exact W.iret (v := x1437_2) hx hb hr (fun t ht9 hW => ⟨⟨x1437_2, (iv, lv, (u2 fa 12 73 w1437_a_12_73), la), rfl, ⟨w1437_a_12_73, (show (((x1437_2 : Int32).toInt = -100001 ∧ ¬ (0 ≤ (a).toInt ∧ (a).toInt < (iv 12 67).toInt) ∧ ∀ j : Nat, w1437_a_12_73 j = (fa 12 73) j) ∨ ((x1437_2 : Int32).toInt = -100003 ∧ (0 ≤ (a).toInt ∧ (a).toInt < (iv 12 67).toInt) ∧ ¬ StY (fa 12 68) (fa 12 73) ((a).toInt).toNat ∧ ∀ j : Nat, w1437_a_12_73 j = (fa 12 73) j) ∨ ((0 ≤ (a).toInt ∧ (a).toInt < (iv 12 67).toInt) ∧ StY (fa 12 68) (fa 12 73) ((a).toInt).toNat ∧ ∃ T : Nat → Prop, Fa (iv 12 67).toInt (fa 12 71) ((a).toInt).toNat T ∧ (∀ q : Nat, ((T q ∧ ((fa 12 73) q).toInt < 0) → w1437_a_12_73 q = (iv 12 0)) ∧ (¬ (T q ∧ ((fa 12 73) q).toInt < 0) → w1437_a_12_73 q = (fa 12 73) q)) ∧ (x1437_2 : Int32).toInt = (smC (fun q : Nat => T q ∧ ((fa 12 73) q).toInt < 0) ((iv 12 67).toInt).toNat).toInt)) from (by
                    have hq9 := hq1438_0
                    have he9 : (x1437_5 : Int32).toInt = (iv 12 67).toInt := by omega
                    rw [he9] at hq9
                    obtain ⟨h1, h2, h3, h4⟩ := hq9
                    exact Or.inr (Or.inr ⟨⟨by omega, by omega⟩, (xr4_0.resolve_right (fun q => by omega)).2, tbL x1437_3, fun q hq => h1 q (by omega), h3, congrArg Int32.toInt h4⟩))), trivial, rfl⟩, by rw [ht9]; exact hP9, hD9⟩, hS.F ht9⟩) hS.2.2 dX12_undo_144
            · have fc1439 := z_nle (rfl : ((iv 12 67)).toInt = _) (rfl : (x1437_5).toInt = _) c1439
              refine lv_aload_n hx hb dX12_undo_52 rfl (lv_at hl 3 rfl) ?_
              refine gM_12_71 hx hb ht hown hK hP m_1210 dX12_undo_53 ?_
              refine lv_iload hx hb dX12_undo_56 (lv_at hl 0 rfl) ?_
              refine lM_12_71 hx hb hK hP (f := (fa 12 71)) rfl (vp_in_iff.mpr ⟨by omega, by omega⟩) dX12_undo_58 ?_
              refine lv_topi (fun v1440 ev1440 => ?_)
              have tv1440 : (-1) ≤ v1440.toInt ∧ v1440.toInt ≤ 39 := by rw [ev1440]; exact hI.2 12 71 _
              refine lv_if_lt (tgt := 137) hx hb dX12_undo_59 (by decide) (fun c1441 => ?_) (fun c1441 => ?_)
              · have fc1441 := z_lt (rfl : (v1440).toInt = _) (by decide : (0 : Int32).toInt = 0) c1441
                obtain ⟨v1442, ev1442⟩ : ∃ y : Int32, y = x1437_5 + 1 := ⟨_, rfl⟩
                have tv1442 := z_add ev1442 rfl (by decide : (1 : Int32).toInt = 1) (by omega) (by omega)
                refine lv_iinc (v := v1442) (lv' := [(5, .int v1442), (3, .long x1437_3), (2, .int x1437_2), (0, .ref h), (1, .int a)]) hx hb dX12_undo_137 hl (k := 0) rfl (by rw [ev1442]; rfl) (by decide) rfl (fun ls hl => ?_)
                refine lv_goto (tgt := 43) hx hb dX12_undo_140 (by decide) ?_
                exact ih1438 v1442 x1437_3 x1437_2 w1437_a_12_73 ⟨by omega, by omega⟩ hw1437_a_12_73 (show Gn (fa 12 71) (fa 12 73) ((a).toInt).toNat (iv 12 0) (x1437_3 : Int64) w1437_a_12_73 ((v1442 : Int32).toInt).toNat (x1437_2 : Int32) from (by
                      have ho9 := congrArg Int32.toInt (show v1440 = fa 12 71 ((x1437_5 : Int32).toInt).toNat from ev1440)
                      have hO9 := hJQ ((x1437_5 : Int32).toInt).toNat (by omega)
                      have hk9 : ((((x1437_5 : Int32).toInt).toNat : Nat) : Int) = (x1437_5 : Int32).toInt := Int.toNat_of_nonneg (by omega)
                      exact Gn_n (k := ((x1437_5 : Int32).toInt).toNat) (by omega) (by omega) (fun z => by exfalso; omega) hq1438_0)) (show (a).toInt < (v1442 : Int32).toInt from by omega) (show (v1442 : Int32).toInt ≤ ((iv 12 67) : Int32).toInt from by omega) (by omega) _ _ ls hP hD hS (lv_sub hl [0, 1, 2, 3, 4] rfl)
              · have fc1441 := z_nlt (rfl : (v1440).toInt = _) (by decide : (0 : Int32).toInt = 0) c1441
                refine lv_lload_n hx hb dX12_undo_62 rfl (lv_at hl 1 rfl) ?_
                refine lv_aload_n hx hb dX12_undo_63 rfl (lv_at hl 3 rfl) ?_
                refine gM_12_71 hx hb ht hown hK hP m_1210 dX12_undo_64 ?_
                refine lv_iload hx hb dX12_undo_67 (lv_at hl 0 rfl) ?_
                refine lM_12_71 hx hb hK hP (f := (fa 12 71)) rfl (vp_in_iff.mpr ⟨by omega, by omega⟩) dX12_undo_69 ?_
                refine lv_topi (fun v1443 ev1443 => ?_)
                obtain rfl : v1440 = v1443 := ev1440.trans ev1443.symm
                obtain ⟨w1444, ew1444⟩ : ∃ y : Int64, x1437_3 >>> ((v1440 : Int32).toInt64 &&& 63) = y := ⟨_, rfl⟩
                refine lv_lshr (v := w1444) hx hb dX12_undo_70 ew1444 ?_
                refine lv_lconst (v := 1) hx hb dX12_undo_71 (by decide) ?_
                refine lv_land hx hb dX12_undo_72 ?_
                refine lv_topl (fun w1445 ew1445 => ?_)
                refine lv_lconst (v := 1) hx hb dX12_undo_73 (by decide) ?_
                refine W.lcmp hx hb dX12_undo_74 ?_
                refine lv_topi (fun v1446 ev1446 => ?_)
                refine lv_if_ne (tgt := 137) hx hb dX12_undo_75 (by decide) (fun c1447 => ?_) (fun c1447 => ?_)
                · have fc1447 := zc_ne ev1446 (rfl : (w1445).toInt = _) (by decide : (1 : Int64).toInt = 1) c1447
                  obtain ⟨v1448, ev1448⟩ : ∃ y : Int32, y = x1437_5 + 1 := ⟨_, rfl⟩
                  have tv1448 := z_add ev1448 rfl (by decide : (1 : Int32).toInt = 1) (by omega) (by omega)
                  refine lv_iinc (v := v1448) (lv' := [(5, .int v1448), (3, .long x1437_3), (2, .int x1437_2), (0, .ref h), (1, .int a)]) hx hb dX12_undo_137 hl (k := 0) rfl (by rw [ev1448]; rfl) (by decide) rfl (fun ls hl => ?_)
                  refine lv_goto (tgt := 43) hx hb dX12_undo_140 (by decide) ?_
                  exact ih1438 v1448 x1437_3 x1437_2 w1437_a_12_73 ⟨by omega, by omega⟩ hw1437_a_12_73 (show Gn (fa 12 71) (fa 12 73) ((a).toInt).toNat (iv 12 0) (x1437_3 : Int64) w1437_a_12_73 ((v1448 : Int32).toInt).toNat (x1437_2 : Int32) from (by
                        have ho9 := congrArg Int32.toInt (show v1440 = fa 12 71 ((x1437_5 : Int32).toInt).toNat from ev1440)
                        have hO9 := hJQ ((x1437_5 : Int32).toInt).toNat (by omega)
                        have hk9 : ((((x1437_5 : Int32).toInt).toNat : Nat) : Int) = (x1437_5 : Int32).toInt := Int.toNat_of_nonneg (by omega)
                        have hb9 := tb_at (a := v1440) ⟨by omega, by omega⟩ ew1444.symm ew1445
                        rw [ho9] at hb9
                        exact Gn_n (k := ((x1437_5 : Int32).toInt).toNat) (by omega) (by omega) (fun z y => by have := hb9.1.mpr y; omega) hq1438_0)) (show (a).toInt < (v1448 : Int32).toInt from by omega) (show (v1448 : Int32).toInt ≤ ((iv 12 67) : Int32).toInt from by omega) (by omega) _ _ ls hP hD hS (lv_sub hl [0, 1, 2, 3, 4] rfl)
                · have fc1447 := zc_eq ev1446 (rfl : (w1445).toInt = _) (by decide : (1 : Int64).toInt = 1) c1447
                  refine lv_lload_n hx hb dX12_undo_78 rfl (lv_at hl 1 rfl) ?_
                  refine lv_lconst (v := 1) hx hb dX12_undo_79 (by decide) ?_
                  refine lv_iload hx hb dX12_undo_80 (lv_at hl 0 rfl) ?_
                  obtain ⟨w1449, ew1449⟩ : ∃ y : Int64, 1 <<< ((x1437_5 : Int32).toInt64 &&& 63) = y := ⟨_, rfl⟩
                  refine lv_lshl (v := w1449) hx hb dX12_undo_82 ew1449 ?_
                  refine lv_lor hx hb dX12_undo_83 ?_
                  refine lv_topl (fun w1450 ew1450 => ?_)
                  refine lv_lstore_n (lv' := [(3, .long w1450), (5, .int x1437_5), (2, .int x1437_2), (0, .ref h), (1, .int a)]) hx hb dX12_undo_84 rfl hl (by decide) rfl (fun ls hl => ?_)
                  refine lv_iload_n hx hb dX12_undo_85 rfl (lv_at hl 2 rfl) ?_
                  refine lv_aload_n hx hb dX12_undo_86 rfl (lv_at hl 3 rfl) ?_
                  refine gM_12_73 hx hb ht hown hK hP m_1212 dX12_undo_87 ?_
                  refine lv_iload hx hb dX12_undo_90 (lv_at hl 1 rfl) ?_
                  refine lM_12_73 hx hb hK hP (f := w1437_a_12_73) rfl (vp_in_iff.mpr ⟨by omega, by omega⟩) dX12_undo_92 ?_
                  refine lv_topi (fun v1451 ev1451 => ?_)
                  refine lv_if_ge (tgt := 100) hx hb dX12_undo_93 (by decide) (fun c1452 => ?_) (fun c1452 => ?_)
                  · have fc1452 := z_le (by decide : (0 : Int32).toInt = 0) (rfl : (v1451).toInt = _) c1452
                    refine lv_iconst (v := 0) hx hb dX12_undo_100 (by decide) ?_
                    refine vp_callSi (W.runS (As := [.int 0]) (rest := [.int x1437_2]) ⟨hx, hb, hml, hown, ht⟩ (c_X12_bit_0 l dC dI) (kS 1 ht m_1396 m_1397 m_89 m_1398 rfl rfl hd_X12_bit_v ⟨Nat.le_of_ble_eq_true rfl, Nat.le_of_ble_eq_true rfl⟩) (sR noP (hK.sub (tys' := []) [] rfl)) rfl rfl hl.1 rfl (lv_room (Nat.le_of_ble_eq_true rfl)) dX12_undo_101 ⟨Nat.le_of_ble_eq_true rfl, Nat.le_of_ble_eq_true rfl⟩) (fun r1453 hr1453 => ?_)
                    obtain rfl : 0 = r1453 := hr1453.symm
                    refine lv_iadd hx hb dX12_undo_104 ?_
                    refine lv_topi (fun v1454 ev1454 => ?_)
                    refine lv_istore_n (lv' := [(2, .int v1454), (3, .long w1450), (5, .int x1437_5), (0, .ref h), (1, .int a)]) hx hb dX12_undo_105 rfl hl (by decide) rfl (fun ls hl => ?_)
                    refine lv_aload_n hx hb dX12_undo_106 rfl (lv_at hl 3 rfl) ?_
                    refine gM_12_73 hx hb ht hown hK hP m_1212 dX12_undo_107 ?_
                    refine lv_iload hx hb dX12_undo_110 (lv_at hl 2 rfl) ?_
                    refine lv_aload_n hx hb dX12_undo_112 rfl (lv_at hl 3 rfl) ?_
                    refine gM_12_73 hx hb ht hown hK hP m_1212 dX12_undo_113 ?_
                    refine lv_iload hx hb dX12_undo_116 (lv_at hl 2 rfl) ?_
                    refine lM_12_73 hx hb hK hP (f := w1437_a_12_73) rfl (vp_in_iff.mpr ⟨by omega, by omega⟩) dX12_undo_118 ?_
                    refine lv_topi (fun v1455 ev1455 => ?_)
                    obtain rfl : v1451 = v1455 := ev1451.trans ev1455.symm
                    refine lv_if_ge (tgt := 129) hx hb dX12_undo_119 (by decide) (fun c1456 => ?_) (fun c1456 => ?_)
                    · skip
                      refine lv_aload_n hx hb dX12_undo_129 rfl (lv_at hl 3 rfl) ?_
                      refine gM_12_73 hx hb ht hown hK hP m_1212 dX12_undo_130 ?_
                      refine lv_iload hx hb dX12_undo_133 (lv_at hl 2 rfl) ?_
                      refine lM_12_73 hx hb hK hP (f := w1437_a_12_73) rfl (vp_in_iff.mpr ⟨by omega, by omega⟩) dX12_undo_135 ?_
                      refine lv_topi (fun v1457 ev1457 => ?_)
                      obtain rfl : v1451 = v1457 := ev1451.trans ev1457.symm
                      refine tM_12_73 hx hb hK hP hD hS (f0 := w1437_a_12_73) rfl (i := x1437_5) (x := v1451) (vp_in_iff.mpr ⟨by omega, by omega⟩) dX12_undo_136 (fun f1458 ef1458 H locs hP hD hS => ?_)
                      have hf1458 : ∀ j, inb (bA 12 73 j) (f1458 j) := fun j => full_i _
                      have hP : va_P (dC, dI) classes (WM h g ca iv lv (u2 fa 12 73 f1458) la) H := hP
                      have hD : va_D A (WM h g ca iv lv (u2 fa 12 73 f1458) la) := hD
                      obtain ⟨v1459, ev1459⟩ : ∃ y : Int32, y = x1437_5 + 1 := ⟨_, rfl⟩
                      have tv1459 := z_add ev1459 rfl (by decide : (1 : Int32).toInt = 1) (by omega) (by omega)
                      refine lv_iinc (v := v1459) (lv' := [(5, .int v1459), (2, .int v1454), (3, .long w1450), (0, .ref h), (1, .int a)]) hx hb dX12_undo_137 hl (k := 2) rfl (by rw [ev1459]; rfl) (by decide) rfl (fun ls hl => ?_)
                      refine lv_goto (tgt := 43) hx hb dX12_undo_140 (by decide) ?_
                      exact ih1438 v1459 w1450 v1454 f1458 ⟨by omega, by omega⟩ hf1458 (show Gn (fa 12 71) (fa 12 73) ((a).toInt).toNat (iv 12 0) (w1450 : Int64) f1458 ((v1459 : Int32).toInt).toNat (v1454 : Int32) from (by
                            have ho9 := congrArg Int32.toInt (show v1440 = fa 12 71 ((x1437_5 : Int32).toInt).toNat from ev1440)
                            have hO9 := hJQ ((x1437_5 : Int32).toInt).toNat (by omega)
                            have hk9 : ((((x1437_5 : Int32).toInt).toNat : Nat) : Int) = (x1437_5 : Int32).toInt := Int.toNat_of_nonneg (by omega)
                            have hb9 := tb_at (a := v1440) ⟨by omega, by omega⟩ ew1444.symm ew1445
                            rw [ho9] at hb9
                            have hU9 : w1437_a_12_73 ((x1437_5 : Int32).toInt).toNat = fa 12 73 ((x1437_5 : Int32).toInt).toNat := by
                              have z1 := hq1438_0
                              exact (z1.2.2.1 _).2 (fun y => absurd (z1.2.1 _ y.1) (Nat.lt_irrefl _))
                            have hz9 := tb_or (a := x1437_5) ⟨by omega, by omega⟩ ew1449.symm ew1450
                            have hv9 := congrArg Int32.toInt ((show v1451 = w1437_a_12_73 ((x1437_5 : Int32).toInt).toNat from ev1451).trans hU9)
                            exact Gn_y (k := ((x1437_5 : Int32).toInt).toNat) (by omega) (by omega) (fun q hq => (hJQ q (by omega)).2.2.2.2) (by omega) (hb9.1.mp (by omega)) hz9 (fun q hq => by rw [ef1458, upd_ne (show q ≠ (x1437_5 : Int32).toNatClampNeg from hq)]) (fun z => by exfalso; omega) (fun z => (by rw [ef1458, show ((x1437_5 : Int32).toInt).toNat = (x1437_5 : Int32).toNatClampNeg from rfl, upd_eq]; exact (show v1451 = w1437_a_12_73 ((x1437_5 : Int32).toInt).toNat from ev1451).trans hU9)) (fun z => by exfalso; omega) (fun z => ev1454) hq1438_0)) (show (a).toInt < (v1459 : Int32).toInt from by omega) (show (v1459 : Int32).toInt ≤ ((iv 12 67) : Int32).toInt from by omega) (by omega) _ _ ls hP hD hS (lv_sub hl [0, 2, 1, 3, 4] rfl)
                    · have fc1456 := z_nle (by decide : (0 : Int32).toInt = 0) (rfl : (v1451).toInt = _) c1456; exfalso; omega
                  · have fc1452 := z_nle (by decide : (0 : Int32).toInt = 0) (rfl : (v1451).toInt = _) c1452
                    refine lv_iconst (v := 1) hx hb dX12_undo_96 (by decide) ?_
                    refine lv_goto (tgt := 101) hx hb dX12_undo_97 (by decide) ?_
                    refine vp_callSi (W.runS (As := [.int 1]) (rest := [.int x1437_2]) ⟨hx, hb, hml, hown, ht⟩ (c_X12_bit_1 l dC dI) (kS 1 ht m_1396 m_1397 m_89 m_1398 rfl rfl hd_X12_bit_v ⟨Nat.le_of_ble_eq_true rfl, Nat.le_of_ble_eq_true rfl⟩) (sR noP (hK.sub (tys' := []) [] rfl)) rfl rfl hl.1 rfl (lv_room (Nat.le_of_ble_eq_true rfl)) dX12_undo_101 ⟨Nat.le_of_ble_eq_true rfl, Nat.le_of_ble_eq_true rfl⟩) (fun r1460 hr1460 => ?_)
                    obtain rfl : 1 = r1460 := hr1460.symm
                    refine lv_iadd hx hb dX12_undo_104 ?_
                    refine lv_topi (fun v1461 ev1461 => ?_)
                    refine lv_istore_n (lv' := [(2, .int v1461), (3, .long w1450), (5, .int x1437_5), (0, .ref h), (1, .int a)]) hx hb dX12_undo_105 rfl hl (by decide) rfl (fun ls hl => ?_)
                    refine lv_aload_n hx hb dX12_undo_106 rfl (lv_at hl 3 rfl) ?_
                    refine gM_12_73 hx hb ht hown hK hP m_1212 dX12_undo_107 ?_
                    refine lv_iload hx hb dX12_undo_110 (lv_at hl 2 rfl) ?_
                    refine lv_aload_n hx hb dX12_undo_112 rfl (lv_at hl 3 rfl) ?_
                    refine gM_12_73 hx hb ht hown hK hP m_1212 dX12_undo_113 ?_
                    refine lv_iload hx hb dX12_undo_116 (lv_at hl 2 rfl) ?_
                    refine lM_12_73 hx hb hK hP (f := w1437_a_12_73) rfl (vp_in_iff.mpr ⟨by omega, by omega⟩) dX12_undo_118 ?_
                    refine lv_topi (fun v1462 ev1462 => ?_)
                    obtain rfl : v1451 = v1462 := ev1451.trans ev1462.symm
                    refine lv_if_ge (tgt := 129) hx hb dX12_undo_119 (by decide) (fun c1463 => ?_) (fun c1463 => ?_)
                    · have fc1463 := z_le (by decide : (0 : Int32).toInt = 0) (rfl : (v1451).toInt = _) c1463; exfalso; omega
                    · skip
                      refine lv_aload_n hx hb dX12_undo_122 rfl (lv_at hl 3 rfl) ?_
                      refine gM_12_0 hx hb ht hown hK hP m_1139 (v := (iv 12 0)) rfl dX12_undo_123 ?_
                      refine lv_goto (tgt := 136) hx hb dX12_undo_126 (by decide) ?_
                      refine tM_12_73 hx hb hK hP hD hS (f0 := w1437_a_12_73) rfl (i := x1437_5) (x := (iv 12 0)) (vp_in_iff.mpr ⟨by omega, by omega⟩) dX12_undo_136 (fun f1464 ef1464 H locs hP hD hS => ?_)
                      have hf1464 : ∀ j, inb (bA 12 73 j) (f1464 j) := fun j => full_i _
                      have hP : va_P (dC, dI) classes (WM h g ca iv lv (u2 fa 12 73 f1464) la) H := hP
                      have hD : va_D A (WM h g ca iv lv (u2 fa 12 73 f1464) la) := hD
                      obtain ⟨v1465, ev1465⟩ : ∃ y : Int32, y = x1437_5 + 1 := ⟨_, rfl⟩
                      have tv1465 := z_add ev1465 rfl (by decide : (1 : Int32).toInt = 1) (by omega) (by omega)
                      refine lv_iinc (v := v1465) (lv' := [(5, .int v1465), (2, .int v1461), (3, .long w1450), (0, .ref h), (1, .int a)]) hx hb dX12_undo_137 hl (k := 2) rfl (by rw [ev1465]; rfl) (by decide) rfl (fun ls hl => ?_)
                      refine lv_goto (tgt := 43) hx hb dX12_undo_140 (by decide) ?_
                      exact ih1438 v1465 w1450 v1461 f1464 ⟨by omega, by omega⟩ hf1464 (show Gn (fa 12 71) (fa 12 73) ((a).toInt).toNat (iv 12 0) (w1450 : Int64) f1464 ((v1465 : Int32).toInt).toNat (v1461 : Int32) from (by
                            have ho9 := congrArg Int32.toInt (show v1440 = fa 12 71 ((x1437_5 : Int32).toInt).toNat from ev1440)
                            have hO9 := hJQ ((x1437_5 : Int32).toInt).toNat (by omega)
                            have hk9 : ((((x1437_5 : Int32).toInt).toNat : Nat) : Int) = (x1437_5 : Int32).toInt := Int.toNat_of_nonneg (by omega)
                            have hb9 := tb_at (a := v1440) ⟨by omega, by omega⟩ ew1444.symm ew1445
                            rw [ho9] at hb9
                            have hU9 : w1437_a_12_73 ((x1437_5 : Int32).toInt).toNat = fa 12 73 ((x1437_5 : Int32).toInt).toNat := by
                              have z1 := hq1438_0
                              exact (z1.2.2.1 _).2 (fun y => absurd (z1.2.1 _ y.1) (Nat.lt_irrefl _))
                            have hz9 := tb_or (a := x1437_5) ⟨by omega, by omega⟩ ew1449.symm ew1450
                            have hv9 := congrArg Int32.toInt ((show v1451 = w1437_a_12_73 ((x1437_5 : Int32).toInt).toNat from ev1451).trans hU9)
                            exact Gn_y (k := ((x1437_5 : Int32).toInt).toNat) (by omega) (by omega) (fun q hq => (hJQ q (by omega)).2.2.2.2) (by omega) (hb9.1.mp (by omega)) hz9 (fun q hq => by rw [ef1464, upd_ne (show q ≠ (x1437_5 : Int32).toNatClampNeg from hq)]) (fun z => (by rw [ef1464, show ((x1437_5 : Int32).toInt).toNat = (x1437_5 : Int32).toNatClampNeg from rfl, upd_eq])) (fun z => by exfalso; omega) (fun z => ev1461) (fun z => by exfalso; omega) hq1438_0)) (show (a).toInt < (v1465 : Int32).toInt from by omega) (show (v1465 : Int32).toInt ≤ ((iv 12 67) : Int32).toInt from by omega) (by omega) _ _ ls hP hD hS (lv_sub hl [0, 2, 1, 3, 4] rfl)
        have : (1 : Int32).toInt = 1 := (by decide)
        exact lp1438 40 v8 w7 1 f6 ⟨by omega, by omega⟩ hf6 (show Gn (fa 12 71) (fa 12 73) ((a).toInt).toNat (iv 12 0) (w7 : Int64) f6 ((v8 : Int32).toInt).toNat (1 : Int32) from (by
              have hs9 := xr4_0
              have hs8 := (hs9.resolve_right (fun q => by omega)).2
              exact Gn_0 (a := a) ⟨by omega, by omega⟩ (by omega) ew7.symm hs8.2 (fun q hq => (hJQ q (by omega)).2.2.2.2) (fun q hq => by rw [ef6, upd_ne (show q ≠ (a : Int32).toNatClampNeg from hq)]) (by rw [ef6, show (a.toInt).toNat = (a : Int32).toNatClampNeg from rfl, upd_eq]))) (show (a).toInt < (v8 : Int32).toInt from by omega) (show (v8 : Int32).toInt ≤ ((iv 12 67) : Int32).toInt from by omega) (by first | decide | omega) _ _ ls hP hD hS (lv_sub hl [0, 1, 2, 3, 4] rfl)
      · have fc5 := z_eq (rfl : (r4).toInt = _) (by decide : (0 : Int32).toInt = 0) c5
        refine lv_ldc hx hb hown (ht _ m_1374) dX12_undo_19 ?_
        have : ((-100003) : Int32).toInt = (-100003) := (by decide)
        have hP9 : va_P (dC, dI) classes (WM h g ca iv lv (u2 fa 12 73 (fa 12 73)) la) s.heap := hP
        have hD9 : va_D A (WM h g ca iv lv (u2 fa 12 73 (fa 12 73)) la) := hD
        exact W.iret (v := (-100003)) hx hb hr (fun t ht9 hW => ⟨⟨(-100003), (iv, lv, (u2 fa 12 73 (fa 12 73)), la), rfl, ⟨(fa 12 73), (show ((((-100003) : Int32).toInt = -100001 ∧ ¬ (0 ≤ (a).toInt ∧ (a).toInt < (iv 12 67).toInt) ∧ ∀ j : Nat, (fa 12 73) j = (fa 12 73) j) ∨ (((-100003) : Int32).toInt = -100003 ∧ (0 ≤ (a).toInt ∧ (a).toInt < (iv 12 67).toInt) ∧ ¬ StY (fa 12 68) (fa 12 73) ((a).toInt).toNat ∧ ∀ j : Nat, (fa 12 73) j = (fa 12 73) j) ∨ ((0 ≤ (a).toInt ∧ (a).toInt < (iv 12 67).toInt) ∧ StY (fa 12 68) (fa 12 73) ((a).toInt).toNat ∧ ∃ T : Nat → Prop, Fa (iv 12 67).toInt (fa 12 71) ((a).toInt).toNat T ∧ (∀ q : Nat, ((T q ∧ ((fa 12 73) q).toInt < 0) → (fa 12 73) q = (iv 12 0)) ∧ (¬ (T q ∧ ((fa 12 73) q).toInt < 0) → (fa 12 73) q = (fa 12 73) q)) ∧ ((-100003) : Int32).toInt = (smC (fun q : Nat => T q ∧ ((fa 12 73) q).toInt < 0) ((iv 12 67).toInt).toNat).toInt)) from Or.inr (Or.inl ⟨by omega, ⟨by omega, by omega⟩, (xr4_0.resolve_left (fun q => by omega)).2, fun j => rfl⟩)), trivial, rfl⟩, by rw [ht9]; exact hP9, hD9⟩, hS.F ht9⟩) hS.2.2 dX12_undo_21
    · exact absurd rfl c3
