/-! ===== rd6 ===== -/
set_option maxHeartbeats 4000000 in
set_option maxRecDepth 100000 in
/-- X8_readClause -/
theorem c_X8_readClause_r (l : Launch) (dC : Nat → ClassId) (dI : Nat → Nat → Nat) (sz : Nat) (ak av : Nat → Nat) (h : Nat) (g : Nat → Nat → Nat) (ca : Nat → Nat → ClassId) (iv : Nat → Nat → Int32) (lv : Nat → Nat → Int64) (fa : Nat → Nat → Nat → Int32) (la : Nat → Nat → Nat → Int64) (hI : IX iv fa) (q_1_7 : 0 ≤ (iv 1 7).toInt ∧ (iv 1 7).toInt ≤ 7) (hs0 : Sk (fun j => (fa 8 1 j).toInt) (iv 8 2).toInt (iv 8 5).toInt (iv 8 5).toInt) : Met l yX8_readClause (wc yX8_readClause cX8_readClause 3 (some .boolean)) ({ frames := 7, cells := 0, slots := 0, locals := 157 } : Room) (pWZ ak av (dC, dI) classes (WX h g ca iv lv fa la) (TX ca) sz [.ref (g 11 4)]) (va_Qi (fun r (u : SS) => ∃ (na_1_2 : Nat → Int32) (na_1_3 : Nat → Int32) (na_1_4 : Nat → Int32) (na_1_5 : Nat → Int32) (ni_1_8 : Int32) (ni_8_3 : Int32) (ni_8_4 : Int32) (ni_8_5 : Int32), inb (bI 1 8) ni_1_8 ∧ inb (bI 8 3) ni_8_3 ∧ inb (bI 8 4) ni_8_4 ∧ inb (bI 8 5) ni_8_5 ∧ (((r.toInt = 0 ∧ 1 ≤ (ni_8_4).toInt ∧ (ni_1_8).toInt = (iv 1 8).toInt ∧ ∃ (b kd v1 v2 : Int) (wd : Nat → Int), ClR (fun j => ((fa 8 1) j).toInt) (iv 8 2).toInt (iv 1 7).toInt (iv 8 5).toInt (iv 1 8).toInt (ni_8_4).toInt (ni_8_3).toInt b kd v1 v2 wd) ∨ (r.toInt = 1 ∧ (ni_8_4).toInt = (iv 8 4).toInt ∧ (ni_8_3).toInt = (iv 8 3).toInt ∧ (ni_1_8).toInt = (iv 1 8).toInt + 1 ∧ (iv 1 8).toInt ≤ 11 ∧ ClR (fun j => ((fa 8 1) j).toInt) (iv 8 2).toInt (iv 1 7).toInt (iv 8 5).toInt (iv 1 8).toInt 0 0 (ni_8_5).toInt (na_1_2 (12 * ((iv 1 7).toInt).toNat + ((iv 1 8).toInt).toNat)).toInt (na_1_3 (12 * ((iv 1 7).toInt).toNat + ((iv 1 8).toInt).toNat)).toInt (na_1_4 (12 * ((iv 1 7).toInt).toNat + ((iv 1 8).toInt).toNat)).toInt (fun j => (na_1_5 ((8 * (12 * ((iv 1 7).toInt).toNat + ((iv 1 8).toInt).toNat)) + j)).toInt)))) ∧ (∀ j : Nat, (j : Int) < 12 * (iv 1 7).toInt + (iv 1 8).toInt → na_1_2 j = (fa 1 2) j ∧ na_1_3 j = (fa 1 3) j ∧ na_1_4 j = (fa 1 4) j) ∧ (∀ j : Nat, (j : Int) < (8 * (12 * (iv 1 7).toInt + (iv 1 8).toInt)) → na_1_5 j = (fa 1 5) j) ∧ (0 ≤ r.toInt ∧ r.toInt ≤ 1) ∧ u = ((u2 (u2 (u2 (u2 iv 1 8 ni_1_8) 8 3 ni_8_3) 8 4 ni_8_4) 8 5 ni_8_5), lv, (u2 (u2 (u2 (u2 fa 1 2 na_1_2) 1 3 na_1_3) 1 4 na_1_4) 1 5 na_1_5), la)) (bX (dC, dI) h g ca (va_A (WX h g ca iv lv fa la) sz)) (va_A (WX h g ca iv lv fa la) sz)) 0 0 (va_A (WX h g ca iv lv fa la) sz) := by
  refine Met.ofW (cc := cX8_readClause) (maxL := 3) (ret := (some .boolean)) (by decide) rfl ?_
  intro p e s m args below meth c s₁ B hml hv
  obtain ⟨rfl, hsz, hP, hK, hD0, hZ⟩ := hv
  have hx := B.exec
  have hb := B.bytes
  have hr := B.returns
  have ht := tb_tl (atoms_spec (ws := wc yX8_readClause cX8_readClause 3 (some .boolean)) B.pre)
  have hown : s.vm.findClass RX8 = some m.cls := findClass_of_methodNamed B.named
  have hlocks := B.notSynchronized
  subst hsz
  have hD := hD0.self (sz := s.heap.size)
  generalize hAe : va_A (WX h g ca iv lv fa la) s.heap.size = A at hD hZ ⊢
  have hA : ∀ q : Nat, s.heap.size ≤ q → A q := fun q h => by rw [← hAe]; exact Or.inr h
  have hS : va_S A s.heap s.heap [] := va_S.rf
  have hl := lv_entry [.ref (g 11 4)] (n := 3) (Nat.le_of_ble_eq_true rfl)
  rw [lg_entry_eq]
  generalize (lg_sl [.ref (g 11 4)] ++ List.replicate (3 - (lg_sl [.ref (g 11 4)]).length) Slot.unset).toArray = ls at hl ⊢
  have hl : lv_has ls 3 [(0, .ref (g 11 4))] := hl
  refine lv_aload_n hx hb dX8_readClause_0 rfl (lv_at hl 0 rfl) ?_
  have i_8_5 : 0 ≤ (iv 8 5).toInt ∧ (iv 8 5).toInt ≤ 200 := hI.1 8 5
  refine gX_8_5 hx hb ht hown hK hP m_235 (v := (iv 8 5)) rfl dX8_readClause_1 ?_
  refine lv_istore_n (lv' := [(1, .int (iv 8 5)), (0, .ref (g 11 4))]) hx hb dX8_readClause_4 rfl hl (by decide) rfl (fun ls hl => ?_)
  refine lv_aload_n hx hb dX8_readClause_5 rfl (lv_at hl 1 rfl) ?_
  refine va_ldcS hx hb hown hZ.2.1 dX8_readClause_6 ?_
  have i_8_4 : 0 ≤ (iv 8 4).toInt ∧ (iv 8 4).toInt ≤ 5 := hI.1 8 4
  have i_8_3 : (-1) ≤ (iv 8 3).toInt ∧ (iv 8 3).toInt ≤ 200 := hI.1 8 3
  have hFc := free_all hD hS hA
  refine va_calli (va_runV (As := [.ref (ak 0)]) (rest := []) ⟨hx, hb, hml, hown, ht⟩ (c_X8_readOneOf_r0 l dC dI s.heap.size ak av h g ca iv lv fa la hI) (kV 1 ht m_697 m_699 m_18 m_82 m_700 rfl rfl hd_X8_readOneOf_v ⟨Nat.le_of_ble_eq_true rfl, Nat.le_of_ble_eq_true rfl⟩) (vWZ hP hK hD ((hZ.kept hS.2.1).narrow (free_all hD hS hA)) (rX_8 hK hP)) rfl rfl hl.1 rfl (lv_room (Nat.le_of_ble_eq_true rfl)) dX8_readClause_8 ⟨Nat.le_of_ble_eq_true rfl, Nat.le_of_ble_eq_true rfl⟩) hS (fun q _ h => hFc q h) hFc (fun r1 u t H1 locs ht9 hvm hr1 hB hz1 hk1 hS => ?_)
  obtain ⟨n2, n3, n4, hn2, hn3, hn4, xr1_0, hr1, rfl⟩ := hr1
  have hn2 : (-1) ≤ n2.toInt ∧ n2.toInt ≤ 200 := hn2
  have hn3 : 0 ≤ n3.toInt ∧ n3.toInt ≤ 5 := hn3
  have hn4 : 0 ≤ n4.toInt ∧ n4.toInt ≤ 200 := hn4
  obtain ⟨hP, hD⟩ := hB
  rw [ht9] at hP
  generalize H1 = H at hP hS ⊢
  have hP : va_P (dC, dI) classes (WX h g ca (u2 (u2 (u2 iv 8 3 n2) 8 4 n3) 8 5 n4) lv fa la) H := hP
  have hD : va_D A (WX h g ca (u2 (u2 (u2 iv 8 3 n2) 8 4 n3) 8 5 n4) lv fa la) := (show va_D _ (WX h g ca (u2 (u2 (u2 iv 8 3 n2) 8 4 n3) 8 5 n4) lv fa la) from hD).weaken (fun _ _ _ h => hFc _ h)
  have i_8_2 : 0 ≤ (iv 8 2).toInt ∧ (iv 8 2).toInt ≤ 200 := hI.1 8 2
  have xr1_0 : ∃ s e : Int, Sk (fun j => ((fa 8 1) j).toInt) ((iv 8 2) : Int32).toInt ((iv 8 5) : Int32).toInt s ∧ Rn (fun j => ((fa 8 1) j).toInt) ((iv 8 2) : Int32).toInt 97 122 s e ∧ (((r1 : Int32).toInt = -1 ∧ kwK (fun j => ((fa 8 1) j).toInt) s e = -1 ∧ (n3 : Int32).toInt = 1 ∧ (n2 : Int32).toInt = s) ∨ (0 ≤ (r1 : Int32).toInt ∧ (r1 : Int32).toInt = kwK (fun j => ((fa 8 1) j).toInt) s e ∧ (n3 : Int32).toInt = ((iv 8 4) : Int32).toInt ∧ (n2 : Int32).toInt = ((iv 8 3) : Int32).toInt ∧ (n4 : Int32).toInt = e)) := xr1_0
  refine lv_istore_n (lv' := [(2, .int r1), (1, .int (iv 8 5)), (0, .ref (g 11 4))]) hx hb dX8_readClause_11 rfl hl (by decide) rfl (fun ls hl => ?_)
  refine lv_iload_n hx hb dX8_readClause_12 rfl (lv_at hl 0 rfl) ?_
  refine lv_iconst (v := (-1)) hx hb dX8_readClause_13 (by decide) ?_
  refine lv_icmp_ne (tgt := 19) hx hb dX8_readClause_14 (by decide) (fun c5 => ?_) (fun c5 => ?_)
  · have fc5 := z_ne (rfl : (r1).toInt = _) (by decide : ((-1) : Int32).toInt = (-1)) c5
    refine lv_aload_n hx hb dX8_readClause_19 rfl (lv_at hl 2 rfl) ?_
    refine gX_8_0 hx hb ht hown hK hP m_228 dX8_readClause_20 ?_
    have i_1_8 : 0 ≤ (iv 1 8).toInt ∧ (iv 1 8).toInt ≤ 12 := hI.1 1 8
    refine gX_1_8 hx hb ht hown hK hP m_200 (v := (iv 1 8)) rfl dX8_readClause_23 ?_
    refine lv_bipush (v := 12) hx hb dX8_readClause_26 (by decide) ?_
    refine lv_icmp_lt (tgt := 38) hx hb dX8_readClause_28 (by decide) (fun c6 => ?_) (fun c6 => ?_)
    · have fc6 := z_lt (rfl : ((iv 1 8)).toInt = _) (by decide : (12 : Int32).toInt = 12) c6
      refine lv_iload_n hx hb dX8_readClause_38 rfl (lv_at hl 0 rfl) ?_
      rcases sw_0_2 r1 with h7 | rfl | rfl | rfl
      · refine lv_tableOut (tgt := 79) hx hb dX8_readClause_39 h7 (by decide) ?_
        refine lv_aload_n hx hb dX8_readClause_79 rfl (lv_at hl 2 rfl) ?_
        have i_1_7 : 0 ≤ (iv 1 7).toInt ∧ (iv 1 7).toInt ≤ 8 := hI.1 1 7
        have hFc := free_all hD hS hA
        refine va_calli (va_runV (As := []) (rest := []) ⟨hx, hb, hml, hown, ht⟩ (c_X8_readStrike_r l dC dI H.size ak av h g ca (u2 (u2 (u2 iv 8 3 n2) 8 4 n3) 8 5 n4) lv fa la (IX_i (c := 8) (k := 5) (IX_i (c := 8) (k := 4) (IX_i (c := 8) (k := 3) hI (show inb ((-1), 200) n2 from ⟨by omega, by omega⟩)) (show inb (0, 5) n3 from ⟨by omega, by omega⟩)) (show inb (0, 200) n4 from ⟨by omega, by omega⟩)) (show 0 ≤ ((iv 1 7) : Int32).toInt ∧ ((iv 1 7) : Int32).toInt ≤ 7 from ⟨by omega, by omega⟩) (show 0 ≤ ((iv 1 8) : Int32).toInt ∧ ((iv 1 8) : Int32).toInt ≤ 11 from ⟨by omega, by omega⟩)) (kV 0 ht m_801 m_803 m_28 m_82 m_804 rfl rfl hd_X8_readStrike_v ⟨Nat.le_of_ble_eq_true rfl, Nat.le_of_ble_eq_true rfl⟩) (vWZ hP hK hD ((hZ.kept hS.2.1).narrow (free_all hD hS hA)) (rX_8 hK hP)) rfl rfl hl.1 rfl (lv_room (Nat.le_of_ble_eq_true rfl)) dX8_readClause_80 ⟨Nat.le_of_ble_eq_true rfl, Nat.le_of_ble_eq_true rfl⟩) hS (fun q _ h => hFc q h) hFc (fun r8 u t H1 locs ht9 hvm hr8 hB hz1 hk1 hS => ?_)
        obtain ⟨n9, n10, n11, n12, n13, n14, n15, hn12, hn13, hn14, hn15, xr8_0, xr8_1, hr8, rfl⟩ := hr8
        have hn9 : ∀ j, inb (bA 1 2 j) (n9 j) := fun j => full_i _
        have hn10 : ∀ j, inb (bA 1 3 j) (n10 j) := fun j => full_i _
        have hn11 : ∀ j, inb (bA 1 4 j) (n11 j) := fun j => full_i _
        have hn12 : 0 ≤ n12.toInt ∧ n12.toInt ≤ 12 := hn12
        have hn13 : (-1) ≤ n13.toInt ∧ n13.toInt ≤ 200 := hn13
        have hn14 : 0 ≤ n14.toInt ∧ n14.toInt ≤ 5 := hn14
        have hn15 : 0 ≤ n15.toInt ∧ n15.toInt ≤ 200 := hn15
        obtain ⟨hP, hD⟩ := hB
        rw [ht9] at hP
        generalize H1 = H at hP hS ⊢
        have hP : va_P (dC, dI) classes (WX h g ca (u2 (u2 (u2 (u2 iv 8 3 n13) 8 4 n14) 8 5 n15) 1 8 n12) lv (u2 (u2 (u2 fa 1 2 n9) 1 3 n10) 1 4 n11) la) H := hP
        have hD : va_D A (WX h g ca (u2 (u2 (u2 (u2 iv 8 3 n13) 8 4 n14) 8 5 n15) 1 8 n12) lv (u2 (u2 (u2 fa 1 2 n9) 1 3 n10) 1 4 n11) la) := (show va_D _ (WX h g ca (u2 (u2 (u2 (u2 iv 8 3 n13) 8 4 n14) 8 5 n15) 1 8 n12) lv (u2 (u2 (u2 fa 1 2 n9) 1 3 n10) 1 4 n11) la) from hD).weaken (fun _ _ _ h => hFc _ h)
        have xr8_0 : (((r8 : Int32).toInt = 0 ∧ 1 ≤ (n14 : Int32).toInt ∧ (n12 : Int32).toInt = ((iv 1 8) : Int32).toInt ∧ ∃ b kd v1 : Int, StrR (fun j => ((fa 8 1) j).toInt) ((iv 8 2) : Int32).toInt ((iv 1 7) : Int32).toInt (n4 : Int32).toInt (n14 : Int32).toInt (n13 : Int32).toInt b kd v1 ) ∨ ((r8 : Int32).toInt = 1 ∧ (n14 : Int32).toInt = (n3 : Int32).toInt ∧ (n13 : Int32).toInt = (n2 : Int32).toInt ∧ (n12 : Int32).toInt = ((iv 1 8) : Int32).toInt + 1 ∧ StrR (fun j => ((fa 8 1) j).toInt) ((iv 8 2) : Int32).toInt ((iv 1 7) : Int32).toInt (n4 : Int32).toInt 0 0 (n15 : Int32).toInt (n9 (12 * (((iv 1 7) : Int32).toInt).toNat + (((iv 1 8) : Int32).toInt).toNat)).toInt (n10 (12 * (((iv 1 7) : Int32).toInt).toNat + (((iv 1 8) : Int32).toInt).toNat)).toInt)) := xr8_0
        have xr8_1 : ∀ j : Nat, (j : Int) < 12 * ((iv 1 7) : Int32).toInt + ((iv 1 8) : Int32).toInt → n9 j = (fa 1 2) j ∧ n10 j = (fa 1 3) j ∧ n11 j = (fa 1 4) j := xr8_1
        have hP9 : va_P (dC, dI) classes (WX h g ca (u2 (u2 (u2 (u2 iv 1 8 n12) 8 3 n13) 8 4 n14) 8 5 n15) lv (u2 (u2 (u2 (u2 fa 1 2 n9) 1 3 n10) 1 4 n11) 1 5 (fa 1 5)) la) H := hP
        have hD9 : va_D A (WX h g ca (u2 (u2 (u2 (u2 iv 1 8 n12) 8 3 n13) 8 4 n14) 8 5 n15) lv (u2 (u2 (u2 (u2 fa 1 2 n9) 1 3 n10) 1 4 n11) 1 5 (fa 1 5)) la) := hD
        exact W.zret (v := r8) hx hb hr (nar01 ⟨by omega, by omega⟩) (fun t ht9 hW => ⟨⟨r8, ((u2 (u2 (u2 (u2 iv 1 8 n12) 8 3 n13) 8 4 n14) 8 5 n15), lv, (u2 (u2 (u2 (u2 fa 1 2 n9) 1 3 n10) 1 4 n11) 1 5 (fa 1 5)), la), rfl, ⟨n9, n10, n11, (fa 1 5), n12, n13, n14, n15, (show inb (0, 12) n12 from ⟨by omega, by omega⟩), (show inb ((-1), 200) n13 from ⟨by omega, by omega⟩), (show inb (0, 5) n14 from ⟨by omega, by omega⟩), (show inb (0, 200) n15 from ⟨by omega, by omega⟩), (show (((r8 : Int32).toInt = 0 ∧ 1 ≤ (n14 : Int32).toInt ∧ (n12 : Int32).toInt = (iv 1 8).toInt ∧ ∃ (b kd v1 v2 : Int) (wd : Nat → Int), ClR (fun j => ((fa 8 1) j).toInt) ((iv 8 2) : Int32).toInt (iv 1 7).toInt (iv 8 5).toInt (iv 1 8).toInt (n14 : Int32).toInt (n13 : Int32).toInt b kd v1 v2 wd) ∨ ((r8 : Int32).toInt = 1 ∧ (n14 : Int32).toInt = (iv 8 4).toInt ∧ (n13 : Int32).toInt = (iv 8 3).toInt ∧ (n12 : Int32).toInt = (iv 1 8).toInt + 1 ∧ (iv 1 8).toInt ≤ 11 ∧ ClR (fun j => ((fa 8 1) j).toInt) ((iv 8 2) : Int32).toInt (iv 1 7).toInt (iv 8 5).toInt (iv 1 8).toInt 0 0 (n15 : Int32).toInt (n9 (12 * ((iv 1 7).toInt).toNat + ((iv 1 8).toInt).toNat)).toInt (n10 (12 * ((iv 1 7).toInt).toNat + ((iv 1 8).toInt).toNat)).toInt (n11 (12 * ((iv 1 7).toInt).toNat + ((iv 1 8).toInt).toNat)).toInt (fun j => ((fa 1 5) ((8 * (12 * ((iv 1 7).toInt).toNat + ((iv 1 8).toInt).toNat)) + j)).toInt))) from (by
              obtain ⟨s, e, k1, k2, k3⟩ := xr1_0
              have es := Sk_un (by omega) hs0 k1
              subst es
              rcases k3 with ⟨k4, -⟩ | ⟨k4, k5, k6, k7, k8⟩
              · exfalso; omega
              · skip
                rcases xr8_0 with ⟨p1, p2, p3, b, kd, v1, p4⟩ | ⟨p1, p2, p3, p4, p5⟩
                · rw [k8] at p4; exact Or.inl ⟨by omega, by omega, by omega, b, kd, v1, 0, (fun _ => 0), e, k2, Or.inr (Or.inr (Or.inr (Or.inr (Or.inr (⟨by omega, by omega, p4⟩)))))⟩
                · rw [k8] at p5; exact Or.inr ⟨by omega, by omega, by omega, by omega, by omega, e, k2, Or.inr (Or.inr (Or.inr (Or.inr (Or.inr (⟨by omega, by omega, p5⟩)))))⟩)), (show ∀ j : Nat, (j : Int) < 12 * (iv 1 7).toInt + (iv 1 8).toInt → n9 j = (fa 1 2) j ∧ n10 j = (fa 1 3) j ∧ n11 j = (fa 1 4) j from xr8_1), (show ∀ j : Nat, (j : Int) < (8 * (12 * (iv 1 7).toInt + (iv 1 8).toInt)) → (fa 1 5) j = (fa 1 5) j from fun j hj => rfl), ⟨by omega, by omega⟩, rfl⟩, by rw [ht9]; exact hP9, hD9⟩, hS.F ht9⟩) hS.2.2 dX8_readClause_83
      · refine lv_tableIn (tgt := 64) (off := 25) hx hb dX8_readClause_39 (by decide) (by decide) rfl (by decide) ?_
        refine lv_aload_n hx hb dX8_readClause_64 rfl (lv_at hl 2 rfl) ?_
        have i_1_7 : 0 ≤ (iv 1 7).toInt ∧ (iv 1 7).toInt ≤ 8 := hI.1 1 7
        have hFc := free_all hD hS hA
        refine va_calli (va_runV (As := []) (rest := []) ⟨hx, hb, hml, hown, ht⟩ (c_X8_readLet_r l dC dI H.size ak av h g ca (u2 (u2 (u2 iv 8 3 n2) 8 4 n3) 8 5 n4) lv fa la (IX_i (c := 8) (k := 5) (IX_i (c := 8) (k := 4) (IX_i (c := 8) (k := 3) hI (show inb ((-1), 200) n2 from ⟨by omega, by omega⟩)) (show inb (0, 5) n3 from ⟨by omega, by omega⟩)) (show inb (0, 200) n4 from ⟨by omega, by omega⟩)) (show 0 ≤ ((iv 1 7) : Int32).toInt ∧ ((iv 1 7) : Int32).toInt ≤ 7 from ⟨by omega, by omega⟩) (show 0 ≤ ((iv 1 8) : Int32).toInt ∧ ((iv 1 8) : Int32).toInt ≤ 11 from ⟨by omega, by omega⟩)) (kV 0 ht m_761 m_763 m_22 m_82 m_764 rfl rfl hd_X8_readLet_v ⟨Nat.le_of_ble_eq_true rfl, Nat.le_of_ble_eq_true rfl⟩) (vWZ hP hK hD ((hZ.kept hS.2.1).narrow (free_all hD hS hA)) (rX_8 hK hP)) rfl rfl hl.1 rfl (lv_room (Nat.le_of_ble_eq_true rfl)) dX8_readClause_65 ⟨Nat.le_of_ble_eq_true rfl, Nat.le_of_ble_eq_true rfl⟩) hS (fun q _ h => hFc q h) hFc (fun r16 u t H1 locs ht9 hvm hr16 hB hz1 hk1 hS => ?_)
        obtain ⟨n17, n18, n19, n20, n21, n22, n23, hn20, hn21, hn22, hn23, xr16_0, xr16_1, hr16, rfl⟩ := hr16
        have hn17 : ∀ j, inb (bA 1 2 j) (n17 j) := fun j => full_i _
        have hn18 : ∀ j, inb (bA 1 3 j) (n18 j) := fun j => full_i _
        have hn19 : ∀ j, inb (bA 1 4 j) (n19 j) := fun j => full_i _
        have hn20 : 0 ≤ n20.toInt ∧ n20.toInt ≤ 12 := hn20
        have hn21 : (-1) ≤ n21.toInt ∧ n21.toInt ≤ 200 := hn21
        have hn22 : 0 ≤ n22.toInt ∧ n22.toInt ≤ 5 := hn22
        have hn23 : 0 ≤ n23.toInt ∧ n23.toInt ≤ 200 := hn23
        obtain ⟨hP, hD⟩ := hB
        rw [ht9] at hP
        generalize H1 = H at hP hS ⊢
        have hP : va_P (dC, dI) classes (WX h g ca (u2 (u2 (u2 (u2 iv 8 3 n21) 8 4 n22) 8 5 n23) 1 8 n20) lv (u2 (u2 (u2 fa 1 2 n17) 1 3 n18) 1 4 n19) la) H := hP
        have hD : va_D A (WX h g ca (u2 (u2 (u2 (u2 iv 8 3 n21) 8 4 n22) 8 5 n23) 1 8 n20) lv (u2 (u2 (u2 fa 1 2 n17) 1 3 n18) 1 4 n19) la) := (show va_D _ (WX h g ca (u2 (u2 (u2 (u2 iv 8 3 n21) 8 4 n22) 8 5 n23) 1 8 n20) lv (u2 (u2 (u2 fa 1 2 n17) 1 3 n18) 1 4 n19) la) from hD).weaken (fun _ _ _ h => hFc _ h)
        have xr16_0 : (((r16 : Int32).toInt = 0 ∧ 1 ≤ (n22 : Int32).toInt ∧ (n20 : Int32).toInt = ((iv 1 8) : Int32).toInt ∧ ∃ b kd v1 : Int, LetR (fun j => ((fa 8 1) j).toInt) ((iv 8 2) : Int32).toInt (n4 : Int32).toInt (n22 : Int32).toInt (n21 : Int32).toInt b kd v1 ) ∨ ((r16 : Int32).toInt = 1 ∧ (n22 : Int32).toInt = (n3 : Int32).toInt ∧ (n21 : Int32).toInt = (n2 : Int32).toInt ∧ (n20 : Int32).toInt = ((iv 1 8) : Int32).toInt + 1 ∧ LetR (fun j => ((fa 8 1) j).toInt) ((iv 8 2) : Int32).toInt (n4 : Int32).toInt 0 0 (n23 : Int32).toInt (n17 (12 * (((iv 1 7) : Int32).toInt).toNat + (((iv 1 8) : Int32).toInt).toNat)).toInt (n18 (12 * (((iv 1 7) : Int32).toInt).toNat + (((iv 1 8) : Int32).toInt).toNat)).toInt)) := xr16_0
        have xr16_1 : ∀ j : Nat, (j : Int) < 12 * ((iv 1 7) : Int32).toInt + ((iv 1 8) : Int32).toInt → n17 j = (fa 1 2) j ∧ n18 j = (fa 1 3) j ∧ n19 j = (fa 1 4) j := xr16_1
        have hP9 : va_P (dC, dI) classes (WX h g ca (u2 (u2 (u2 (u2 iv 1 8 n20) 8 3 n21) 8 4 n22) 8 5 n23) lv (u2 (u2 (u2 (u2 fa 1 2 n17) 1 3 n18) 1 4 n19) 1 5 (fa 1 5)) la) H := hP
        have hD9 : va_D A (WX h g ca (u2 (u2 (u2 (u2 iv 1 8 n20) 8 3 n21) 8 4 n22) 8 5 n23) lv (u2 (u2 (u2 (u2 fa 1 2 n17) 1 3 n18) 1 4 n19) 1 5 (fa 1 5)) la) := hD
        exact W.zret (v := r16) hx hb hr (nar01 ⟨by omega, by omega⟩) (fun t ht9 hW => ⟨⟨r16, ((u2 (u2 (u2 (u2 iv 1 8 n20) 8 3 n21) 8 4 n22) 8 5 n23), lv, (u2 (u2 (u2 (u2 fa 1 2 n17) 1 3 n18) 1 4 n19) 1 5 (fa 1 5)), la), rfl, ⟨n17, n18, n19, (fa 1 5), n20, n21, n22, n23, (show inb (0, 12) n20 from ⟨by omega, by omega⟩), (show inb ((-1), 200) n21 from ⟨by omega, by omega⟩), (show inb (0, 5) n22 from ⟨by omega, by omega⟩), (show inb (0, 200) n23 from ⟨by omega, by omega⟩), (show (((r16 : Int32).toInt = 0 ∧ 1 ≤ (n22 : Int32).toInt ∧ (n20 : Int32).toInt = (iv 1 8).toInt ∧ ∃ (b kd v1 v2 : Int) (wd : Nat → Int), ClR (fun j => ((fa 8 1) j).toInt) ((iv 8 2) : Int32).toInt (iv 1 7).toInt (iv 8 5).toInt (iv 1 8).toInt (n22 : Int32).toInt (n21 : Int32).toInt b kd v1 v2 wd) ∨ ((r16 : Int32).toInt = 1 ∧ (n22 : Int32).toInt = (iv 8 4).toInt ∧ (n21 : Int32).toInt = (iv 8 3).toInt ∧ (n20 : Int32).toInt = (iv 1 8).toInt + 1 ∧ (iv 1 8).toInt ≤ 11 ∧ ClR (fun j => ((fa 8 1) j).toInt) ((iv 8 2) : Int32).toInt (iv 1 7).toInt (iv 8 5).toInt (iv 1 8).toInt 0 0 (n23 : Int32).toInt (n17 (12 * ((iv 1 7).toInt).toNat + ((iv 1 8).toInt).toNat)).toInt (n18 (12 * ((iv 1 7).toInt).toNat + ((iv 1 8).toInt).toNat)).toInt (n19 (12 * ((iv 1 7).toInt).toNat + ((iv 1 8).toInt).toNat)).toInt (fun j => ((fa 1 5) ((8 * (12 * ((iv 1 7).toInt).toNat + ((iv 1 8).toInt).toNat)) + j)).toInt))) from (by
              obtain ⟨s, e, k1, k2, k3⟩ := xr1_0
              have es := Sk_un (by omega) hs0 k1
              subst es
              rcases k3 with ⟨k4, -⟩ | ⟨k4, k5, k6, k7, k8⟩
              · exfalso; omega
              · have z9 : (0 : Int32).toInt = 0 := by decide
                rcases xr16_0 with ⟨p1, p2, p3, b, kd, v1, p4⟩ | ⟨p1, p2, p3, p4, p5⟩
                · rw [k8] at p4; exact Or.inl ⟨by omega, by omega, by omega, b, kd, v1, 0, (fun _ => 0), e, k2, Or.inr (Or.inr (Or.inl ⟨by omega, by omega, p4⟩))⟩
                · rw [k8] at p5; exact Or.inr ⟨by omega, by omega, by omega, by omega, by omega, e, k2, Or.inr (Or.inr (Or.inl ⟨by omega, by omega, p5⟩))⟩)), (show ∀ j : Nat, (j : Int) < 12 * (iv 1 7).toInt + (iv 1 8).toInt → n17 j = (fa 1 2) j ∧ n18 j = (fa 1 3) j ∧ n19 j = (fa 1 4) j from xr16_1), (show ∀ j : Nat, (j : Int) < (8 * (12 * (iv 1 7).toInt + (iv 1 8).toInt)) → (fa 1 5) j = (fa 1 5) j from fun j hj => rfl), ⟨by omega, by omega⟩, rfl⟩, by rw [ht9]; exact hP9, hD9⟩, hS.F ht9⟩) hS.2.2 dX8_readClause_68
      · refine lv_tableIn (tgt := 69) (off := 30) hx hb dX8_readClause_39 (by decide) (by decide) rfl (by decide) ?_
        refine lv_aload_n hx hb dX8_readClause_69 rfl (lv_at hl 2 rfl) ?_
        have i_1_7 : 0 ≤ (iv 1 7).toInt ∧ (iv 1 7).toInt ≤ 8 := hI.1 1 7
        have hFc := free_all hD hS hA
        refine va_calli (va_runV (As := []) (rest := []) ⟨hx, hb, hml, hown, ht⟩ (c_X8_readTake_r l dC dI H.size ak av h g ca (u2 (u2 (u2 iv 8 3 n2) 8 4 n3) 8 5 n4) lv fa la (IX_i (c := 8) (k := 5) (IX_i (c := 8) (k := 4) (IX_i (c := 8) (k := 3) hI (show inb ((-1), 200) n2 from ⟨by omega, by omega⟩)) (show inb (0, 5) n3 from ⟨by omega, by omega⟩)) (show inb (0, 200) n4 from ⟨by omega, by omega⟩)) (show 0 ≤ ((iv 1 7) : Int32).toInt ∧ ((iv 1 7) : Int32).toInt ≤ 7 from ⟨by omega, by omega⟩) (show 0 ≤ ((iv 1 8) : Int32).toInt ∧ ((iv 1 8) : Int32).toInt ≤ 11 from ⟨by omega, by omega⟩)) (kV 0 ht m_783 m_785 m_25 m_82 m_786 rfl rfl hd_X8_readTake_v ⟨Nat.le_of_ble_eq_true rfl, Nat.le_of_ble_eq_true rfl⟩) (vWZ hP hK hD ((hZ.kept hS.2.1).narrow (free_all hD hS hA)) (rX_8 hK hP)) rfl rfl hl.1 rfl (lv_room (Nat.le_of_ble_eq_true rfl)) dX8_readClause_70 ⟨Nat.le_of_ble_eq_true rfl, Nat.le_of_ble_eq_true rfl⟩) hS (fun q _ h => hFc q h) hFc (fun r24 u t H1 locs ht9 hvm hr24 hB hz1 hk1 hS => ?_)
        obtain ⟨n25, n26, n27, n28, n29, n30, n31, hn28, hn29, hn30, hn31, xr24_0, xr24_1, hr24, rfl⟩ := hr24
        have hn25 : ∀ j, inb (bA 1 2 j) (n25 j) := fun j => full_i _
        have hn26 : ∀ j, inb (bA 1 3 j) (n26 j) := fun j => full_i _
        have hn27 : ∀ j, inb (bA 1 4 j) (n27 j) := fun j => full_i _
        have hn28 : 0 ≤ n28.toInt ∧ n28.toInt ≤ 12 := hn28
        have hn29 : (-1) ≤ n29.toInt ∧ n29.toInt ≤ 200 := hn29
        have hn30 : 0 ≤ n30.toInt ∧ n30.toInt ≤ 5 := hn30
        have hn31 : 0 ≤ n31.toInt ∧ n31.toInt ≤ 200 := hn31
        obtain ⟨hP, hD⟩ := hB
        rw [ht9] at hP
        generalize H1 = H at hP hS ⊢
        have hP : va_P (dC, dI) classes (WX h g ca (u2 (u2 (u2 (u2 iv 8 3 n29) 8 4 n30) 8 5 n31) 1 8 n28) lv (u2 (u2 (u2 fa 1 2 n25) 1 3 n26) 1 4 n27) la) H := hP
        have hD : va_D A (WX h g ca (u2 (u2 (u2 (u2 iv 8 3 n29) 8 4 n30) 8 5 n31) 1 8 n28) lv (u2 (u2 (u2 fa 1 2 n25) 1 3 n26) 1 4 n27) la) := (show va_D _ (WX h g ca (u2 (u2 (u2 (u2 iv 8 3 n29) 8 4 n30) 8 5 n31) 1 8 n28) lv (u2 (u2 (u2 fa 1 2 n25) 1 3 n26) 1 4 n27) la) from hD).weaken (fun _ _ _ h => hFc _ h)
        have xr24_0 : (((r24 : Int32).toInt = 0 ∧ 1 ≤ (n30 : Int32).toInt ∧ (n28 : Int32).toInt = ((iv 1 8) : Int32).toInt ∧ ∃ b kd v1 : Int, TakR (fun j => ((fa 8 1) j).toInt) ((iv 8 2) : Int32).toInt (n4 : Int32).toInt (n30 : Int32).toInt (n29 : Int32).toInt b kd v1 ) ∨ ((r24 : Int32).toInt = 1 ∧ (n30 : Int32).toInt = (n3 : Int32).toInt ∧ (n29 : Int32).toInt = (n2 : Int32).toInt ∧ (n28 : Int32).toInt = ((iv 1 8) : Int32).toInt + 1 ∧ TakR (fun j => ((fa 8 1) j).toInt) ((iv 8 2) : Int32).toInt (n4 : Int32).toInt 0 0 (n31 : Int32).toInt (n25 (12 * (((iv 1 7) : Int32).toInt).toNat + (((iv 1 8) : Int32).toInt).toNat)).toInt (n26 (12 * (((iv 1 7) : Int32).toInt).toNat + (((iv 1 8) : Int32).toInt).toNat)).toInt)) := xr24_0
        have xr24_1 : ∀ j : Nat, (j : Int) < 12 * ((iv 1 7) : Int32).toInt + ((iv 1 8) : Int32).toInt → n25 j = (fa 1 2) j ∧ n26 j = (fa 1 3) j ∧ n27 j = (fa 1 4) j := xr24_1
        have hP9 : va_P (dC, dI) classes (WX h g ca (u2 (u2 (u2 (u2 iv 1 8 n28) 8 3 n29) 8 4 n30) 8 5 n31) lv (u2 (u2 (u2 (u2 fa 1 2 n25) 1 3 n26) 1 4 n27) 1 5 (fa 1 5)) la) H := hP
        have hD9 : va_D A (WX h g ca (u2 (u2 (u2 (u2 iv 1 8 n28) 8 3 n29) 8 4 n30) 8 5 n31) lv (u2 (u2 (u2 (u2 fa 1 2 n25) 1 3 n26) 1 4 n27) 1 5 (fa 1 5)) la) := hD
        exact W.zret (v := r24) hx hb hr (nar01 ⟨by omega, by omega⟩) (fun t ht9 hW => ⟨⟨r24, ((u2 (u2 (u2 (u2 iv 1 8 n28) 8 3 n29) 8 4 n30) 8 5 n31), lv, (u2 (u2 (u2 (u2 fa 1 2 n25) 1 3 n26) 1 4 n27) 1 5 (fa 1 5)), la), rfl, ⟨n25, n26, n27, (fa 1 5), n28, n29, n30, n31, (show inb (0, 12) n28 from ⟨by omega, by omega⟩), (show inb ((-1), 200) n29 from ⟨by omega, by omega⟩), (show inb (0, 5) n30 from ⟨by omega, by omega⟩), (show inb (0, 200) n31 from ⟨by omega, by omega⟩), (show (((r24 : Int32).toInt = 0 ∧ 1 ≤ (n30 : Int32).toInt ∧ (n28 : Int32).toInt = (iv 1 8).toInt ∧ ∃ (b kd v1 v2 : Int) (wd : Nat → Int), ClR (fun j => ((fa 8 1) j).toInt) ((iv 8 2) : Int32).toInt (iv 1 7).toInt (iv 8 5).toInt (iv 1 8).toInt (n30 : Int32).toInt (n29 : Int32).toInt b kd v1 v2 wd) ∨ ((r24 : Int32).toInt = 1 ∧ (n30 : Int32).toInt = (iv 8 4).toInt ∧ (n29 : Int32).toInt = (iv 8 3).toInt ∧ (n28 : Int32).toInt = (iv 1 8).toInt + 1 ∧ (iv 1 8).toInt ≤ 11 ∧ ClR (fun j => ((fa 8 1) j).toInt) ((iv 8 2) : Int32).toInt (iv 1 7).toInt (iv 8 5).toInt (iv 1 8).toInt 0 0 (n31 : Int32).toInt (n25 (12 * ((iv 1 7).toInt).toNat + ((iv 1 8).toInt).toNat)).toInt (n26 (12 * ((iv 1 7).toInt).toNat + ((iv 1 8).toInt).toNat)).toInt (n27 (12 * ((iv 1 7).toInt).toNat + ((iv 1 8).toInt).toNat)).toInt (fun j => ((fa 1 5) ((8 * (12 * ((iv 1 7).toInt).toNat + ((iv 1 8).toInt).toNat)) + j)).toInt))) from (by
              obtain ⟨s, e, k1, k2, k3⟩ := xr1_0
              have es := Sk_un (by omega) hs0 k1
              subst es
              rcases k3 with ⟨k4, -⟩ | ⟨k4, k5, k6, k7, k8⟩
              · exfalso; omega
              · have z9 : (1 : Int32).toInt = 1 := by decide
                rcases xr24_0 with ⟨p1, p2, p3, b, kd, v1, p4⟩ | ⟨p1, p2, p3, p4, p5⟩
                · rw [k8] at p4; exact Or.inl ⟨by omega, by omega, by omega, b, kd, v1, 0, (fun _ => 0), e, k2, Or.inr (Or.inr (Or.inr (Or.inl ⟨by omega, by omega, p4⟩)))⟩
                · rw [k8] at p5; exact Or.inr ⟨by omega, by omega, by omega, by omega, by omega, e, k2, Or.inr (Or.inr (Or.inr (Or.inl ⟨by omega, by omega, p5⟩)))⟩)), (show ∀ j : Nat, (j : Int) < 12 * (iv 1 7).toInt + (iv 1 8).toInt → n25 j = (fa 1 2) j ∧ n26 j = (fa 1 3) j ∧ n27 j = (fa 1 4) j from xr24_1), (show ∀ j : Nat, (j : Int) < (8 * (12 * (iv 1 7).toInt + (iv 1 8).toInt)) → (fa 1 5) j = (fa 1 5) j from fun j hj => rfl), ⟨by omega, by omega⟩, rfl⟩, by rw [ht9]; exact hP9, hD9⟩, hS.F ht9⟩) hS.2.2 dX8_readClause_73
      · refine lv_tableIn (tgt := 74) (off := 35) hx hb dX8_readClause_39 (by decide) (by decide) rfl (by decide) ?_
        refine lv_aload_n hx hb dX8_readClause_74 rfl (lv_at hl 2 rfl) ?_
        have i_1_7 : 0 ≤ (iv 1 7).toInt ∧ (iv 1 7).toInt ≤ 8 := hI.1 1 7
        have hFc := free_all hD hS hA
        refine va_calli (va_runV (As := []) (rest := []) ⟨hx, hb, hml, hown, ht⟩ (c_X8_readName_r l dC dI H.size ak av h g ca (u2 (u2 (u2 iv 8 3 n2) 8 4 n3) 8 5 n4) lv fa la (IX_i (c := 8) (k := 5) (IX_i (c := 8) (k := 4) (IX_i (c := 8) (k := 3) hI (show inb ((-1), 200) n2 from ⟨by omega, by omega⟩)) (show inb (0, 5) n3 from ⟨by omega, by omega⟩)) (show inb (0, 200) n4 from ⟨by omega, by omega⟩)) (show 0 ≤ ((iv 1 7) : Int32).toInt ∧ ((iv 1 7) : Int32).toInt ≤ 7 from ⟨by omega, by omega⟩) (show 0 ≤ ((iv 1 8) : Int32).toInt ∧ ((iv 1 8) : Int32).toInt ≤ 11 from ⟨by omega, by omega⟩)) (kV 0 ht m_788 m_790 m_26 m_82 m_791 rfl rfl hd_X8_readName_v ⟨Nat.le_of_ble_eq_true rfl, Nat.le_of_ble_eq_true rfl⟩) (vWZ hP hK hD ((hZ.kept hS.2.1).narrow (free_all hD hS hA)) (rX_8 hK hP)) rfl rfl hl.1 rfl (lv_room (Nat.le_of_ble_eq_true rfl)) dX8_readClause_75 ⟨Nat.le_of_ble_eq_true rfl, Nat.le_of_ble_eq_true rfl⟩) hS (fun q _ h => hFc q h) hFc (fun r32 u t H1 locs ht9 hvm hr32 hB hz1 hk1 hS => ?_)
        obtain ⟨n33, n34, n35, n36, n37, n38, n39, n40, hn37, hn38, hn39, hn40, xr32_0, xr32_1, xr32_2, hr32, rfl⟩ := hr32
        have hn33 : ∀ j, inb (bA 1 2 j) (n33 j) := fun j => full_i _
        have hn34 : ∀ j, inb (bA 1 3 j) (n34 j) := fun j => full_i _
        have hn35 : ∀ j, inb (bA 1 4 j) (n35 j) := fun j => full_i _
        have hn36 : ∀ j, inb (bA 1 5 j) (n36 j) := fun j => full_i _
        have hn37 : 0 ≤ n37.toInt ∧ n37.toInt ≤ 12 := hn37
        have hn38 : (-1) ≤ n38.toInt ∧ n38.toInt ≤ 200 := hn38
        have hn39 : 0 ≤ n39.toInt ∧ n39.toInt ≤ 5 := hn39
        have hn40 : 0 ≤ n40.toInt ∧ n40.toInt ≤ 200 := hn40
        obtain ⟨hP, hD⟩ := hB
        rw [ht9] at hP
        generalize H1 = H at hP hS ⊢
        have hP : va_P (dC, dI) classes (WX h g ca (u2 (u2 (u2 (u2 iv 8 3 n38) 8 4 n39) 8 5 n40) 1 8 n37) lv (u2 (u2 (u2 (u2 fa 1 2 n33) 1 3 n34) 1 4 n35) 1 5 n36) la) H := hP
        have hD : va_D A (WX h g ca (u2 (u2 (u2 (u2 iv 8 3 n38) 8 4 n39) 8 5 n40) 1 8 n37) lv (u2 (u2 (u2 (u2 fa 1 2 n33) 1 3 n34) 1 4 n35) 1 5 n36) la) := (show va_D _ (WX h g ca (u2 (u2 (u2 (u2 iv 8 3 n38) 8 4 n39) 8 5 n40) 1 8 n37) lv (u2 (u2 (u2 (u2 fa 1 2 n33) 1 3 n34) 1 4 n35) 1 5 n36) la) from hD).weaken (fun _ _ _ h => hFc _ h)
        have xr32_0 : (((r32 : Int32).toInt = 0 ∧ 1 ≤ (n39 : Int32).toInt ∧ (n37 : Int32).toInt = ((iv 1 8) : Int32).toInt ∧ ∃ (b kd v1 v2 : Int) (wd : Nat → Int), NamR (fun j => ((fa 8 1) j).toInt) ((iv 8 2) : Int32).toInt (n4 : Int32).toInt (n39 : Int32).toInt (n38 : Int32).toInt b kd v1 v2 wd) ∨ ((r32 : Int32).toInt = 1 ∧ (n39 : Int32).toInt = (n3 : Int32).toInt ∧ (n38 : Int32).toInt = (n2 : Int32).toInt ∧ (n37 : Int32).toInt = ((iv 1 8) : Int32).toInt + 1 ∧ NamR (fun j => ((fa 8 1) j).toInt) ((iv 8 2) : Int32).toInt (n4 : Int32).toInt 0 0 (n40 : Int32).toInt (n33 (12 * (((iv 1 7) : Int32).toInt).toNat + (((iv 1 8) : Int32).toInt).toNat)).toInt (n34 (12 * (((iv 1 7) : Int32).toInt).toNat + (((iv 1 8) : Int32).toInt).toNat)).toInt (n35 (12 * (((iv 1 7) : Int32).toInt).toNat + (((iv 1 8) : Int32).toInt).toNat)).toInt (fun j => (n36 ((8 * (12 * (((iv 1 7) : Int32).toInt).toNat + (((iv 1 8) : Int32).toInt).toNat)) + j)).toInt))) := xr32_0
        have xr32_1 : ∀ j : Nat, (j : Int) < 12 * ((iv 1 7) : Int32).toInt + ((iv 1 8) : Int32).toInt → n33 j = (fa 1 2) j ∧ n34 j = (fa 1 3) j ∧ n35 j = (fa 1 4) j := xr32_1
        have xr32_2 : ∀ j : Nat, (j : Int) < (8 * (12 * ((iv 1 7) : Int32).toInt + ((iv 1 8) : Int32).toInt)) → n36 j = (fa 1 5) j := xr32_2
        have hP9 : va_P (dC, dI) classes (WX h g ca (u2 (u2 (u2 (u2 iv 1 8 n37) 8 3 n38) 8 4 n39) 8 5 n40) lv (u2 (u2 (u2 (u2 fa 1 2 n33) 1 3 n34) 1 4 n35) 1 5 n36) la) H := hP
        have hD9 : va_D A (WX h g ca (u2 (u2 (u2 (u2 iv 1 8 n37) 8 3 n38) 8 4 n39) 8 5 n40) lv (u2 (u2 (u2 (u2 fa 1 2 n33) 1 3 n34) 1 4 n35) 1 5 n36) la) := hD
        exact W.zret (v := r32) hx hb hr (nar01 ⟨by omega, by omega⟩) (fun t ht9 hW => ⟨⟨r32, ((u2 (u2 (u2 (u2 iv 1 8 n37) 8 3 n38) 8 4 n39) 8 5 n40), lv, (u2 (u2 (u2 (u2 fa 1 2 n33) 1 3 n34) 1 4 n35) 1 5 n36), la), rfl, ⟨n33, n34, n35, n36, n37, n38, n39, n40, (show inb (0, 12) n37 from ⟨by omega, by omega⟩), (show inb ((-1), 200) n38 from ⟨by omega, by omega⟩), (show inb (0, 5) n39 from ⟨by omega, by omega⟩), (show inb (0, 200) n40 from ⟨by omega, by omega⟩), (show (((r32 : Int32).toInt = 0 ∧ 1 ≤ (n39 : Int32).toInt ∧ (n37 : Int32).toInt = (iv 1 8).toInt ∧ ∃ (b kd v1 v2 : Int) (wd : Nat → Int), ClR (fun j => ((fa 8 1) j).toInt) ((iv 8 2) : Int32).toInt (iv 1 7).toInt (iv 8 5).toInt (iv 1 8).toInt (n39 : Int32).toInt (n38 : Int32).toInt b kd v1 v2 wd) ∨ ((r32 : Int32).toInt = 1 ∧ (n39 : Int32).toInt = (iv 8 4).toInt ∧ (n38 : Int32).toInt = (iv 8 3).toInt ∧ (n37 : Int32).toInt = (iv 1 8).toInt + 1 ∧ (iv 1 8).toInt ≤ 11 ∧ ClR (fun j => ((fa 8 1) j).toInt) ((iv 8 2) : Int32).toInt (iv 1 7).toInt (iv 8 5).toInt (iv 1 8).toInt 0 0 (n40 : Int32).toInt (n33 (12 * ((iv 1 7).toInt).toNat + ((iv 1 8).toInt).toNat)).toInt (n34 (12 * ((iv 1 7).toInt).toNat + ((iv 1 8).toInt).toNat)).toInt (n35 (12 * ((iv 1 7).toInt).toNat + ((iv 1 8).toInt).toNat)).toInt (fun j => (n36 ((8 * (12 * ((iv 1 7).toInt).toNat + ((iv 1 8).toInt).toNat)) + j)).toInt))) from (by
              obtain ⟨s, e, k1, k2, k3⟩ := xr1_0
              have es := Sk_un (by omega) hs0 k1
              subst es
              rcases k3 with ⟨k4, -⟩ | ⟨k4, k5, k6, k7, k8⟩
              · exfalso; omega
              · have z9 : (2 : Int32).toInt = 2 := by decide
                rcases xr32_0 with ⟨p1, p2, p3, b, kd, v1, v2, wd, p4⟩ | ⟨p1, p2, p3, p4, p5⟩
                · rw [k8] at p4; exact Or.inl ⟨by omega, by omega, by omega, b, kd, v1, v2, wd, e, k2, Or.inr (Or.inr (Or.inr (Or.inr (Or.inl ⟨by omega, by omega, p4⟩))))⟩
                · rw [k8] at p5; exact Or.inr ⟨by omega, by omega, by omega, by omega, by omega, e, k2, Or.inr (Or.inr (Or.inr (Or.inr (Or.inl ⟨by omega, by omega, p5⟩))))⟩)), (show ∀ j : Nat, (j : Int) < 12 * (iv 1 7).toInt + (iv 1 8).toInt → n33 j = (fa 1 2) j ∧ n34 j = (fa 1 3) j ∧ n35 j = (fa 1 4) j from xr32_1), (show ∀ j : Nat, (j : Int) < (8 * (12 * (iv 1 7).toInt + (iv 1 8).toInt)) → n36 j = (fa 1 5) j from xr32_2), ⟨by omega, by omega⟩, rfl⟩, by rw [ht9]; exact hP9, hD9⟩, hS.F ht9⟩) hS.2.2 dX8_readClause_78
    · have fc6 := z_nlt (rfl : ((iv 1 8)).toInt = _) (by decide : (12 : Int32).toInt = 12) c6
      refine lv_aload_n hx hb dX8_readClause_31 rfl (lv_at hl 2 rfl) ?_
      refine lv_iconst (v := 5) hx hb dX8_readClause_32 (by decide) ?_
      refine lv_iload_n hx hb dX8_readClause_33 rfl (lv_at hl 1 rfl) ?_
      have hFc := free_all hD hS hA
      refine va_calli (va_runV (As := [.int 5, .int (iv 8 5)]) (rest := []) ⟨hx, hb, hml, hown, ht⟩ (c_X8_fail_r l dC dI H.size h g ca (u2 (u2 (u2 iv 8 3 n2) 8 4 n3) 8 5 n4) lv fa la (IX_i (c := 8) (k := 5) (IX_i (c := 8) (k := 4) (IX_i (c := 8) (k := 3) hI (show inb ((-1), 200) n2 from ⟨by omega, by omega⟩)) (show inb (0, 5) n3 from ⟨by omega, by omega⟩)) (show inb (0, 200) n4 from ⟨by omega, by omega⟩)) 5 (iv 8 5) ⟨by decide, by decide⟩ ⟨by omega, by omega⟩) (kV 2 ht m_757 m_759 m_21 m_82 m_760 rfl rfl hd_X8_fail_v ⟨Nat.le_of_ble_eq_true rfl, Nat.le_of_ble_eq_true rfl⟩) (vW hP hK hD (rX_8 hK hP)) rfl rfl hl.1 rfl (lv_room (Nat.le_of_ble_eq_true rfl)) dX8_readClause_34 ⟨Nat.le_of_ble_eq_true rfl, Nat.le_of_ble_eq_true rfl⟩) hS (fun q _ h => hFc q h) hFc (fun r41 u t H1 locs ht9 hvm hr41 hB hz1 hk1 hS => ?_)
      obtain ⟨n42, n43, hn42, hn43, xr41_0, xr41_1, hr41, rfl⟩ := hr41
      have hn42 : (-1) ≤ n42.toInt ∧ n42.toInt ≤ 200 := hn42
      have hn43 : 0 ≤ n43.toInt ∧ n43.toInt ≤ 5 := hn43
      obtain ⟨hP, hD⟩ := hB
      rw [ht9] at hP
      generalize H1 = H at hP hS ⊢
      have hP : va_P (dC, dI) classes (WX h g ca (u2 (u2 (u2 iv 8 3 n42) 8 4 n43) 8 5 n4) lv fa la) H := hP
      have hD : va_D A (WX h g ca (u2 (u2 (u2 iv 8 3 n42) 8 4 n43) 8 5 n4) lv fa la) := (show va_D _ (WX h g ca (u2 (u2 (u2 iv 8 3 n42) 8 4 n43) 8 5 n4) lv fa la) from hD).weaken (fun _ _ _ h => hFc _ h)
      have : (5 : Int32).toInt = 5 := (by decide)
      have xr41_0 : (n43 : Int32).toInt = (5 : Int32).toInt := xr41_0
      have xr41_1 : (n42 : Int32).toInt = ((iv 8 5) : Int32).toInt := xr41_1
      have hP9 : va_P (dC, dI) classes (WX h g ca (u2 (u2 (u2 (u2 iv 1 8 (iv 1 8)) 8 3 n42) 8 4 n43) 8 5 n4) lv (u2 (u2 (u2 (u2 fa 1 2 (fa 1 2)) 1 3 (fa 1 3)) 1 4 (fa 1 4)) 1 5 (fa 1 5)) la) H := hP
      have hD9 : va_D A (WX h g ca (u2 (u2 (u2 (u2 iv 1 8 (iv 1 8)) 8 3 n42) 8 4 n43) 8 5 n4) lv (u2 (u2 (u2 (u2 fa 1 2 (fa 1 2)) 1 3 (fa 1 3)) 1 4 (fa 1 4)) 1 5 (fa 1 5)) la) := hD
      exact W.zret (v := r41) hx hb hr (nar01 ⟨by omega, by omega⟩) (fun t ht9 hW => ⟨⟨r41, ((u2 (u2 (u2 (u2 iv 1 8 (iv 1 8)) 8 3 n42) 8 4 n43) 8 5 n4), lv, (u2 (u2 (u2 (u2 fa 1 2 (fa 1 2)) 1 3 (fa 1 3)) 1 4 (fa 1 4)) 1 5 (fa 1 5)), la), rfl, ⟨(fa 1 2), (fa 1 3), (fa 1 4), (fa 1 5), (iv 1 8), n42, n43, n4, (hI.1 1 8), (show inb ((-1), 200) n42 from ⟨by omega, by omega⟩), (show inb (0, 5) n43 from ⟨by omega, by omega⟩), (show inb (0, 200) n4 from ⟨by omega, by omega⟩), (show (((r41 : Int32).toInt = 0 ∧ 1 ≤ (n43 : Int32).toInt ∧ ((iv 1 8) : Int32).toInt = (iv 1 8).toInt ∧ ∃ (b kd v1 v2 : Int) (wd : Nat → Int), ClR (fun j => ((fa 8 1) j).toInt) ((iv 8 2) : Int32).toInt (iv 1 7).toInt (iv 8 5).toInt (iv 1 8).toInt (n43 : Int32).toInt (n42 : Int32).toInt b kd v1 v2 wd) ∨ ((r41 : Int32).toInt = 1 ∧ (n43 : Int32).toInt = (iv 8 4).toInt ∧ (n42 : Int32).toInt = (iv 8 3).toInt ∧ ((iv 1 8) : Int32).toInt = (iv 1 8).toInt + 1 ∧ (iv 1 8).toInt ≤ 11 ∧ ClR (fun j => ((fa 8 1) j).toInt) ((iv 8 2) : Int32).toInt (iv 1 7).toInt (iv 8 5).toInt (iv 1 8).toInt 0 0 (n4 : Int32).toInt ((fa 1 2) (12 * ((iv 1 7).toInt).toNat + ((iv 1 8).toInt).toNat)).toInt ((fa 1 3) (12 * ((iv 1 7).toInt).toNat + ((iv 1 8).toInt).toNat)).toInt ((fa 1 4) (12 * ((iv 1 7).toInt).toNat + ((iv 1 8).toInt).toNat)).toInt (fun j => ((fa 1 5) ((8 * (12 * ((iv 1 7).toInt).toNat + ((iv 1 8).toInt).toNat)) + j)).toInt))) from (by
            obtain ⟨s, e, k1, k2, k3⟩ := xr1_0
            have es := Sk_un (by omega) hs0 k1
            subst es
            rcases k3 with ⟨k4, -⟩ | ⟨k4, k5, k6, k7, k8⟩
            · exfalso; omega
            · exact Or.inl ⟨by omega, by omega, by omega, 0, 0, 0, 0, (fun _ => 0), e, k2, Or.inr (Or.inl ⟨by omega, by omega, by omega, by omega⟩)⟩)), (show ∀ j : Nat, (j : Int) < 12 * (iv 1 7).toInt + (iv 1 8).toInt → (fa 1 2) j = (fa 1 2) j ∧ (fa 1 3) j = (fa 1 3) j ∧ (fa 1 4) j = (fa 1 4) j from fun j hj => ⟨rfl, rfl, rfl⟩), (show ∀ j : Nat, (j : Int) < (8 * (12 * (iv 1 7).toInt + (iv 1 8).toInt)) → (fa 1 5) j = (fa 1 5) j from fun j hj => rfl), ⟨by omega, by omega⟩, rfl⟩, by rw [ht9]; exact hP9, hD9⟩, hS.F ht9⟩) hS.2.2 dX8_readClause_37
  · have fc5 := z_eq (rfl : (r1).toInt = _) (by decide : ((-1) : Int32).toInt = (-1)) c5
    refine lv_iconst (v := 0) hx hb dX8_readClause_17 (by decide) ?_
    have : (0 : Int32).toInt = 0 := (by decide)
    have i_1_8 : 0 ≤ (iv 1 8).toInt ∧ (iv 1 8).toInt ≤ 12 := hI.1 1 8
    have hP9 : va_P (dC, dI) classes (WX h g ca (u2 (u2 (u2 (u2 iv 1 8 (iv 1 8)) 8 3 n2) 8 4 n3) 8 5 n4) lv (u2 (u2 (u2 (u2 fa 1 2 (fa 1 2)) 1 3 (fa 1 3)) 1 4 (fa 1 4)) 1 5 (fa 1 5)) la) H := hP
    have hD9 : va_D A (WX h g ca (u2 (u2 (u2 (u2 iv 1 8 (iv 1 8)) 8 3 n2) 8 4 n3) 8 5 n4) lv (u2 (u2 (u2 (u2 fa 1 2 (fa 1 2)) 1 3 (fa 1 3)) 1 4 (fa 1 4)) 1 5 (fa 1 5)) la) := hD
    exact W.zret (v := 0) hx hb hr rfl (fun t ht9 hW => ⟨⟨0, ((u2 (u2 (u2 (u2 iv 1 8 (iv 1 8)) 8 3 n2) 8 4 n3) 8 5 n4), lv, (u2 (u2 (u2 (u2 fa 1 2 (fa 1 2)) 1 3 (fa 1 3)) 1 4 (fa 1 4)) 1 5 (fa 1 5)), la), rfl, ⟨(fa 1 2), (fa 1 3), (fa 1 4), (fa 1 5), (iv 1 8), n2, n3, n4, (hI.1 1 8), (show inb ((-1), 200) n2 from ⟨by omega, by omega⟩), (show inb (0, 5) n3 from ⟨by omega, by omega⟩), (show inb (0, 200) n4 from ⟨by omega, by omega⟩), (show (((0 : Int32).toInt = 0 ∧ 1 ≤ (n3 : Int32).toInt ∧ ((iv 1 8) : Int32).toInt = (iv 1 8).toInt ∧ ∃ (b kd v1 v2 : Int) (wd : Nat → Int), ClR (fun j => ((fa 8 1) j).toInt) ((iv 8 2) : Int32).toInt (iv 1 7).toInt (iv 8 5).toInt (iv 1 8).toInt (n3 : Int32).toInt (n2 : Int32).toInt b kd v1 v2 wd) ∨ ((0 : Int32).toInt = 1 ∧ (n3 : Int32).toInt = (iv 8 4).toInt ∧ (n2 : Int32).toInt = (iv 8 3).toInt ∧ ((iv 1 8) : Int32).toInt = (iv 1 8).toInt + 1 ∧ (iv 1 8).toInt ≤ 11 ∧ ClR (fun j => ((fa 8 1) j).toInt) ((iv 8 2) : Int32).toInt (iv 1 7).toInt (iv 8 5).toInt (iv 1 8).toInt 0 0 (n4 : Int32).toInt ((fa 1 2) (12 * ((iv 1 7).toInt).toNat + ((iv 1 8).toInt).toNat)).toInt ((fa 1 3) (12 * ((iv 1 7).toInt).toNat + ((iv 1 8).toInt).toNat)).toInt ((fa 1 4) (12 * ((iv 1 7).toInt).toNat + ((iv 1 8).toInt).toNat)).toInt (fun j => ((fa 1 5) ((8 * (12 * ((iv 1 7).toInt).toNat + ((iv 1 8).toInt).toNat)) + j)).toInt))) from (by
          obtain ⟨s, e, k1, k2, k3⟩ := xr1_0
          have es := Sk_un (by omega) hs0 k1
          subst es
          rcases k3 with ⟨k4, k5, k6, k7⟩ | ⟨k4, -⟩
          · exact Or.inl ⟨by omega, by omega, by omega, 0, 0, 0, 0, (fun _ => 0), e, k2, Or.inl ⟨k5, k6, k7⟩⟩
          · exfalso; omega)), (show ∀ j : Nat, (j : Int) < 12 * (iv 1 7).toInt + (iv 1 8).toInt → (fa 1 2) j = (fa 1 2) j ∧ (fa 1 3) j = (fa 1 3) j ∧ (fa 1 4) j = (fa 1 4) j from fun j hj => ⟨rfl, rfl, rfl⟩), (show ∀ j : Nat, (j : Int) < (8 * (12 * (iv 1 7).toInt + (iv 1 8).toInt)) → (fa 1 5) j = (fa 1 5) j from fun j hj => rfl), ⟨by decide, by decide⟩, rfl⟩, by rw [ht9]; exact hP9, hD9⟩, hS.F ht9⟩) hS.2.2 dX8_readClause_18
