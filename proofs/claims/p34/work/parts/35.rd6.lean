/-! ===== rd6 ===== -/
set_option maxHeartbeats 4000000 in
set_option maxRecDepth 100000 in
/-- X8_readClause -/
theorem c_X8_readClause_r (l : Launch) (dC : Nat → ClassId) (dI : Nat → Nat → Nat) (sz : Nat) (ak av : Nat → Nat) (h : Nat) (g : Nat → Nat → Nat) (ca : Nat → Nat → ClassId) (iv : Nat → Nat → Int32) (lv : Nat → Nat → Int64) (fa : Nat → Nat → Nat → Int32) (la : Nat → Nat → Nat → Int64) (hI : IX iv fa) (q_1_7 : 0 ≤ (iv 1 7).toInt ∧ (iv 1 7).toInt ≤ 7) (hs0 : Sk (fun j => (fa 8 1 j).toInt) (iv 8 2).toInt (iv 8 5).toInt (iv 8 5).toInt) : Met l yX8_readClause (wc yX8_readClause cX8_readClause 3 (some .boolean)) ({ frames := 7, cells := 0, slots := 0, locals := 157 } : Room) (pWZ ak av (dC, dI) classes (WX h g ca iv lv fa la) (TX ca) sz [.ref (g 11 4)]) (va_Qi (fun r (u : SS) => ∃ (na_1_2 : Nat → Int32) (na_1_3 : Nat → Int32) (na_1_4 : Nat → Int32) (na_1_5 : Nat → Int32) (ni_1_8 : Int32) (ni_8_3 : Int32) (ni_8_4 : Int32) (ni_8_5 : Int32), inb (bI 1 8) ni_1_8 ∧ inb (bI 8 3) ni_8_3 ∧ inb (bI 8 4) ni_8_4 ∧ inb (bI 8 5) ni_8_5 ∧ (((r.toInt = 0 ∧ 1 ≤ (ni_8_4).toInt ∧ (ni_1_8).toInt = (iv 1 8).toInt ∧ ∃ (b kd v1 v2 : Int) (wd : Nat → Int), ClR (fun j => ((fa 8 1) j).toInt) (iv 8 2).toInt (iv 1 7).toInt (iv 8 5).toInt (iv 1 8).toInt (ni_8_4).toInt (ni_8_3).toInt b kd v1 v2 wd) ∨ (r.toInt = 1 ∧ (ni_8_4).toInt = (iv 8 4).toInt ∧ (ni_8_3).toInt = (iv 8 3).toInt ∧ (ni_1_8).toInt = (iv 1 8).toInt + 1 ∧ (iv 1 8).toInt ≤ 11 ∧ ClR (fun j => ((fa 8 1) j).toInt) (iv 8 2).toInt (iv 1 7).toInt (iv 8 5).toInt (iv 1 8).toInt 0 0 (ni_8_5).toInt (na_1_2 (12 * ((iv 1 7).toInt).toNat + ((iv 1 8).toInt).toNat)).toInt (na_1_3 (12 * ((iv 1 7).toInt).toNat + ((iv 1 8).toInt).toNat)).toInt (na_1_4 (12 * ((iv 1 7).toInt).toNat + ((iv 1 8).toInt).toNat)).toInt (fun j => (na_1_5 ((8 * (12 * ((iv 1 7).toInt).toNat + ((iv 1 8).toInt).toNat)) + j)).toInt)))) ∧ (∀ j : Nat, (j : Int) < 12 * (iv 1 7).toInt + (iv 1 8).toInt → na_1_2 j = (fa 1 2) j ∧ na_1_3 j = (fa 1 3) j ∧ na_1_4 j = (fa 1 4) j) ∧ (∀ j : Nat, (j : Int) < (8 * (12 * (iv 1 7).toInt + (iv 1 8).toInt)) → na_1_5 j = (fa 1 5) j) ∧ (0 ≤ r.toInt ∧ r.toInt ≤ 1) ∧ u = ((u2 (u2 (u2 (u2 iv 1 8 ni_1_8) 8 3 ni_8_3) 8 4 ni_8_4) 8 5 ni_8_5), lv, (u2 (u2 (u2 (u2 fa 1 2 na_1_2) 1 3 na_1_3) 1 4 na_1_4) 1 5 na_1_5), la)) (bX (dC, dI) h g ca (va_A (WX h g ca iv lv fa la) sz)) (va_A (WX h g ca iv lv fa la) sz)) 0 0 (va_A (WX h g ca iv lv fa la) sz) := by
  refine Met.ofW (cc := cX8_readClause) (maxL := 3) (ret := (some .boolean)) (by decide) rfl ?_
  intro p e s m args below meth c s₁ B hml hv
  obtain ⟨rfl, hsz, hP, hK, hD0, hZ⟩ := hv
  have hx := B.exec
  have hb := B.bytes
  have hr := B.returns
  have ht := tb_tl (atoms_spec (ws := wc yX8_readClause cX8_readClause 3 (some .boolean)) B.pre)
  have hown : s.vm.findClass RX8 = some m.cls := findClass_of_methodNamed B.named
  have hlocks := B.notSynchronized
  subst hsz
  have hD := hD0.self (sz := s.heap.size)
  generalize hAe : va_A (WX h g ca iv lv fa la) s.heap.size = A at hD hZ ⊢
  have hA : ∀ q : Nat, s.heap.size ≤ q → A q := fun q h => by rw [← hAe]; exact Or.inr h
  have hS : va_S A s.heap s.heap [] := va_S.rf
  have hl := lv_entry [.ref (g 11 4)] (n := 3) (Nat.le_of_ble_eq_true rfl)
  rw [lg_entry_eq]
  generalize (lg_sl [.ref (g 11 4)] ++ List.replicate (3 - (lg_sl [.ref (g 11 4)]).length) Slot.unset).toArray = ls at hl ⊢
  have hl : lv_has ls 3 [(0, .ref (g 11 4))] := hl
  refine lv_aload_n hx hb dX8_readClause_0 rfl (lv_at hl 0 rfl) ?_
  have i_8_5 : 0 ≤ (iv 8 5).toInt ∧ (iv 8 5).toInt ≤ 200 := hI.1 8 5
  refine gX_8_5 hx hb ht hown hK hP m_235 (v := (iv 8 5)) rfl dX8_readClause_1 ?_
  refine lv_istore_n (lv' := [(1, .int (iv 8 5)), (0, .ref (g 11 4))]) hx hb dX8_readClause_4 rfl hl (by decide) rfl (fun ls hl => ?_)
  refine lv_aload_n hx hb dX8_readClause_5 rfl (lv_at hl 1 rfl) ?_
  refine va_ldcS hx hb hown hZ.2.1 dX8_readClause_6 ?_
  have i_8_4 : 0 ≤ (iv 8 4).toInt ∧ (iv 8 4).toInt ≤ 5 := hI.1 8 4
  have i_8_3 : (-1) ≤ (iv 8 3).toInt ∧ (iv 8 3).toInt ≤ 200 := hI.1 8 3
  have hFc := free_all hD hS hA
  refine va_calli (va_runV (As := [.ref (ak 0)]) (rest := []) ⟨hx, hb, hml, hown, ht⟩ (c_X8_readOneOf_r0 l dC dI s.heap.size ak av h g ca iv lv fa la hI) (kV 1 ht m_697 m_699 m_18 m_82 m_700 rfl rfl hd_X8_readOneOf_v ⟨Nat.le_of_ble_eq_true rfl, Nat.le_of_ble_eq_true rfl⟩) (vWZ hP hK hD ((hZ.kept hS.2.1).narrow (free_all hD hS hA)) (rX_8 hK hP)) rfl rfl hl.1 rfl (lv_room (Nat.le_of_ble_eq_true rfl)) dX8_readClause_8 ⟨Nat.le_of_ble_eq_true rfl, Nat.le_of_ble_eq_true rfl⟩) hS (fun q _ h => hFc q h) hFc (fun r1 u t H1 locs ht9 hvm hr1 hB hz1 hk1 hS => ?_)
  obtain ⟨n2, n3, n4, hn2, hn3, hn4, xr1_0, hr1, rfl⟩ := hr1
  have hn2 : (-1) ≤ n2.toInt ∧ n2.toInt ≤ 200 := hn2
  have hn3 : 0 ≤ n3.toInt ∧ n3.toInt ≤ 5 := hn3
  have hn4 : 0 ≤ n4.toInt ∧ n4.toInt ≤ 200 := hn4
  obtain ⟨hP, hD⟩ := hB
  rw [ht9] at hP
  generalize H1 = H at hP hS ⊢
  have hP : va_P (dC, dI) classes (WX h g ca (u2 (u2 (u2 iv 8 3 n2) 8 4 n3) 8 5 n4) lv fa la) H := hP
  have hD : va_D A (WX h g ca (u2 (u2 (u2 iv 8 3 n2) 8 4 n3) 8 5 n4) lv fa la) := (show va_D _ (WX h g ca (u2 (u2 (u2 iv 8 3 n2) 8 4 n3) 8 5 n4) lv fa la) from hD).weaken (fun _ _ _ h => hFc _ h)
  have i_8_2 : 0 ≤ (iv 8 2).toInt ∧ (iv 8 2).toInt ≤ 200 := hI.1 8 2
  have xr1_0 : ∃ s e : Int, Sk (fun j => ((fa 8 1) j).toInt) ((iv 8 2) : Int32).toInt ((iv 8 5) : Int32).toInt s ∧ Rn (fun j => ((fa 8 1) j).toInt) ((iv 8 2) : Int32).toInt 97 122 s e ∧ (((r1 : Int32).toInt = -1 ∧ kwK (fun j => ((fa 8 1) j).toInt) s e = -1 ∧ (n3 : Int32).toInt = 1 ∧ (n2 : Int32).toInt = s) ∨ (0 ≤ (r1 : Int32).toInt ∧ (r1 : Int32).toInt = kwK (fun j => ((fa 8 1) j).toInt) s e ∧ (n3 : Int32).toInt = ((iv 8 4) : Int32).toInt ∧ (n2 : Int32).toInt = ((iv 8 3) : Int32).toInt ∧ (n4 : Int32).toInt = e)) := xr1_0
  refine lv_istore_n (lv' := [(2, .int r1), (1, .int (iv 8 5)), (0, .ref (g 11 4))]) hx hb dX8_readClause_11 rfl hl (by decide) rfl (fun ls hl => ?_)
  refine lv_iload_n hx hb dX8_readClause_12 rfl (lv_at hl 0 rfl) ?_
  refine lv_iconst (v := (-1)) hx hb dX8_readClause_13 (by decide) ?_
  refine lv_icmp_ne (tgt := 19) hx hb dX8_readClause_14 (by decide) (fun c5 => ?_) (fun c5 => ?_)
  · have fc5 := z_ne (rfl : (r1).toInt = _) (by decide : ((-1) : Int32).toInt = (-1)) c5
    refine lv_aload_n hx hb dX8_readClause_19 rfl (lv_at hl 2 rfl) ?_
    refine gX_8_0 hx hb ht hown hK hP m_228 dX8_readClause_20 ?_
    have i_1_8 : 0 ≤ (iv 1 8).toInt ∧ (iv 1 8).toInt ≤ 12 := hI.1 1 8
    refine gX_1_8 hx hb ht hown hK hP m_200 (v := (iv 1 8)) rfl dX8_readClause_23 ?_
    refine lv_bipush (v := 12) hx hb dX8_readClause_26 (by decide) ?_
    refine lv_icmp_lt (tgt := 38) hx hb dX8_readClause_28 (by decide) (fun c6 => ?_) (fun c6 => ?_)
    · have fc6 := z_lt (rfl : ((iv 1 8)).toInt = _) (by decide : (12 : Int32).toInt = 12) c6
      refine lv_iload_n hx hb dX8_readClause_38 rfl (lv_at hl 0 rfl) ?_
      rcases sw_0_2 r1 with h7 | rfl | rfl | rfl
      · refine lv_tableOut (tgt := 79) hx hb dX8_readClause_39 h7 (by decide) ?_
        refine lv_aload_n hx hb dX8_readClause_79 rfl (lv_at hl 2 rfl) ?_
        have i_1_7 : 0 ≤ (iv 1 7).toInt ∧ (iv 1 7).toInt ≤ 8 := hI.1 1 7
        have hFc := free_all hD hS hA
        refine va_calli (va_runV (As := []) (rest := []) ⟨hx, hb, hml, hown, ht⟩ (c_X8_readStrike_r l dC dI H.size ak av h g ca (u2 (u2 (u2 iv 8 3 n2) 8 4 n3) 8 5 n4) lv fa la (IX_i (c := 8) (k := 5) (IX_i (c := 8) (k := 4) (IX_i (c := 8) (k := 3) hI (show inb ((-1), 200) n2 from ⟨by omega, by omega⟩)) (show inb (0, 5) n3 from ⟨by omega, by omega⟩)) (show inb (0, 200) n4 from ⟨by omega, by omega⟩)) (show 0 ≤ ((iv 1 7) : Int32).toInt ∧ ((iv 1 7) : Int32).toInt ≤ 7 from ⟨by omega, by omega⟩) (show 0 ≤ ((iv 1 8) : Int32).toInt ∧ ((iv 1 8) : Int32).toInt ≤ 11 from ⟨by omega, by omega⟩)) (kV 0 ht m_801 m_803 m_28 m_82 m_804 rfl rfl hd_X8_readStrike_v ⟨Nat.le_of_ble_eq_true rfl, Nat.le_of_ble_eq_true rfl⟩) (vWZ hP hK hD ((hZ.kept hS.2.1).narrow (free_all hD hS hA)) (rX_8 hK hP)) rfl rfl hl.1 rfl (lv_room (Nat.le_of_ble_eq_true rfl)) dX8_readClause_80 ⟨Nat.le_of_ble_eq_true rfl, Nat.le_of_ble_eq_true rfl⟩) hS (fun q _ h => hFc q h) hFc (fun r8 u t H1 locs ht9 hvm hr8 hB hz1 hk1 hS => ?_)
        obtain ⟨n9, n10, n11, n12, n13, n14, n15, hn12, hn13, hn14, hn15, xr8_0, xr8_1, hr8, rfl⟩ := hr8
        have hn9 : ∀ j, inb (bA 1 2 j) (n9 j) := fun j => full_i _
        have hn10 : ∀ j, inb (bA 1 3 j) (n10 j) := fun j => full_i _
        have hn11 : ∀ j, inb (bA 1 4 j) (n11 j) := fun j => full_i _
        have hn12 : 0 ≤ n12.toInt ∧ n12.toInt ≤ 12 := hn12
        have hn13 : (-1) ≤ n13.toInt ∧ n13.toInt ≤ 200 := hn13
        have hn14 : 0 ≤ n14.toInt ∧ n14.toInt ≤ 5 := hn14
        have hn15 : 0 ≤ n15.toInt ∧ n15.toInt ≤ 200 := hn15
        obtain ⟨hP, hD⟩ := hB
        rw [ht9] at hP
        generalize H1 = H at hP hS ⊢
        have hP : va_P (dC, dI) classes (WX h g ca (u2 (u2 (u2 (u2 iv 8 3 n13) 8 4 n14) 8 5 n15) 1 8 n12) lv (u2 (u2 (u2 fa 1 2 n9) 1 3 n10) 1 4 n11) la) H := hP
        have hD : va_D A (WX h g ca (u2 (u2 (u2 (u2 iv 8 3 n13) 8 4 n14) 8 5 n15) 1 8 n12) lv (u2 (u2 (u2 fa 1 2 n9) 1 3 n10) 1 4 n11) la) := (show va_D _ (WX h g ca (u2 (u2 (u2 (u2 iv 8 3 n13) 8 4 n14) 8 5 n15) 1 8 n12) lv (u2 (u2 (u2 fa 1 2 n9) 1 3 n10) 1 4 n11) la) from hD).weaken (fun _ _ _ h => hFc _ h)
        have xr8_0 : (((r8 : Int32).toInt = 0 ∧ 1 ≤ (n14 : Int32).toInt ∧ (n12 : Int32).toInt = ((iv 1 8) : Int32).toInt ∧ ∃ b kd v1 : Int, StrR (fun j => ((fa 8 1) j).toInt) ((iv 8 2) : Int32).toInt ((iv 1 7) : Int32).toInt (n4 : Int32).toInt (n14 : Int32).toInt (n13 : Int32).toInt b kd v1 ) ∨ ((r8 : Int32).toInt = 1 ∧ (n14 : Int32).toInt = (n3 : Int32).toInt ∧ (n13 : Int32).toInt = (n2 : Int32).toInt ∧ (n12 : Int32).toInt = ((iv 1 8) : Int32).toInt + 1 ∧ StrR (fun j => ((fa 8 1) j).toInt) ((iv 8 2) : Int32).toInt ((iv 1 7) : Int32).toInt (n4 : Int32).toInt 0 0 (n15 : Int32).toInt (n9 (12 * (((iv 1 7) : Int32).toInt).toNat + (((iv 1 8) : Int32).toInt).toNat)).toInt (n10 (12 * (((iv 1 7) : Int32).toInt).toNat + (((iv 1 8) : Int32).toInt).toNat)).toInt)) := xr8_0
        have xr8_1 : ∀ j : Nat, (j : Int) < 12 * ((iv 1 7) : Int32).toInt + ((iv 1 8) : Int32).toInt → n9 j = (fa 1 2) j ∧ n10 j = (fa 1 3) j ∧ n11 j = (fa 1 4) j := xr8_1
        have hP9 : va_P (dC, dI) classes (WX h g ca (u2 (u2 (u2 (u2 iv 1 8 n12) 8 3 n13) 8 4 n14) 8 5 n15) lv (u2 (u2 (u2 (u2 fa 1 2 n9) 1 3 n10) 1 4 n11) 1 5 (fa 1 5)) la) H := hP
        have hD9 : va_D A (WX h g ca (u2 (u2 (u2 (u2 iv 1 8 n12) 8 3 n13) 8 4 n14) 8 5 n15) lv (u2 (u2 (u2 (u2 fa 1 2 n9) 1 3 n10) 1 4 n11) 1 5 (fa 1 5)) la) := hD
        exact W.zret (v := r8) hx hb hr (nar01 ⟨by omega, by omega⟩) (fun t ht9 hW => ⟨⟨r8, ((u2 (u2 (u2 (u2 iv 1 8 n12) 8 3 n13) 8 4 n14) 8 5 n15), lv, (u2 (u2 (u2 (u2 fa 1 2 n9) 1 3 n10) 1 4 n11) 1 5 (fa 1 5)), la), rfl, ⟨n9, n10, n11, (fa 1 5), n12, n13, n14, n15, (show inb (0, 12) n12 from ⟨by omega, by omega⟩), (show inb ((-1), 200) n13 from ⟨by omega, by omega⟩), (show inb (0, 5) n14 from ⟨by omega, by omega⟩), (show inb (0, 200) n15 from ⟨by omega, by omega⟩), (show (((r8 : Int32).toInt = 0 ∧ 1 ≤ (n14 : Int32).toInt ∧ (n12 : Int32).toInt = (iv 1 8).toInt ∧ ∃ (b kd v1 v2 : Int) (wd : Nat → Int), ClR (fun j => ((fa 8 1) j).toInt) ((iv 8 2) : Int32).toInt (iv 1 7).toInt (iv 8 5).toInt (iv 1 8).toInt (n14 : Int32).toInt (n13 : Int32).toInt b kd v1 v2 wd) ∨ ((r8 : Int32).toInt = 1 ∧ (n14 : Int32).toInt = (iv 8 4).toInt ∧ (n13 : Int32).toInt = (iv 8 3).toInt ∧ (n12 : Int32).toInt = (iv 1 8).toInt + 1 ∧ (iv 1 8).toInt ≤ 11 ∧ ClR (fun j => ((fa 8 1) j).toInt) ((iv 8 2) : Int32).toInt (iv 1 7).toInt (iv 8 5).toInt (iv 1 8).toInt 0 0 (n15 : Int32).toInt (n9 (12 * ((iv 1 7).toInt).toNat + ((iv 1 8).toInt).toNat)).toInt (n10 (12 * ((iv 1 7).toInt).toNat + ((iv 1 8).toInt).toNat)).toInt (n11 (12 * ((iv 1 7).toInt).toNat + ((iv 1 8).toInt).toNat)).toInt (fun j => ((fa 1 5) ((8 * (12 * ((iv 1 7).toInt).toNat + ((iv 1 8).toInt).toNat)) + j)).toInt))) from (by
              obtain ⟨s, e, k1, k2, k3⟩ := xr1_0
              have es := Sk_un (by omega) hs0 k1
              subst es
              rcases k3 with ⟨k4, -⟩ | ⟨k4, k5, k6, k7, k8⟩
              · exfalso; omega
              · skip
                rcases xr8_0 with ⟨p1, p2, p3, b, kd, v1, p4⟩ | ⟨p1, p2, p3, p4, p5⟩
                · rw [k8] at p4; exact Or.inl ⟨by omega, by omega, by omega, b, kd, v1, 0, (fun _ => 0), e, k2, Or.inr (Or.inr (Or.inr (Or.inr (Or.inr (⟨by omega, by omega, p4⟩)))))⟩
                · rw [k8] at p5; exact Or.inr ⟨by omega, by omega, by omega, by omega, by omega, e, k2, Or.inr (Or.inr (Or.inr (Or.inr (Or.inr (⟨by omega, by omega, p5⟩)))))⟩)), (show ∀ j : Nat, (j : Int) < 12 * (iv 1 7).toInt + (iv 1 8).toInt → n9 j = (fa 1 2) j ∧ n10 j = (fa 1 3) j ∧ n11 j = (fa 1 4) j from xr8_1), (show ∀ j : Nat, (j : Int) < (8 * (12 * (iv 1 7).toInt + (iv 1 8).toInt)) → (fa 1 5) j = (fa 1 5) j from fun j hj => rfl), ⟨by omega, by omega⟩, rfl⟩, by rw [ht9]; exact hP9, hD9⟩, hS.F ht9⟩) hS.2.2 dX8_readClause_83
      · refine lv_tableIn (tgt := 64) (off := 25) hx hb dX8_readClause_39 (by decide) (by decide) rfl (by decide) ?_
        refine lv_aload_n hx hb dX8_readClause_64 rfl (lv_at hl 2 rfl) ?_
        have i_1_7 : 0 ≤ (iv 1 7).toInt ∧ (iv 1 7).toInt ≤ 8 := hI.1 1 7
        have hFc := free_all hD hS hA
        refine va_calli (va_runV (As := []) (rest := []) ⟨hx, hb, hml, hown, ht⟩ (c_X8_readLet_r l dC dI H.size ak av h g ca (u2 (u2 (u2 iv 8 3 n2) 8 4 n3) 8 5 n4) lv fa la (IX_i (c := 8) (k := 5) (IX_i (c := 8) (k := 4) (IX_i (c := 8) (k := 3) hI (show inb ((-1), 200) n2 from ⟨by omega, by omega⟩)) (show inb (0, 5) n3 from ⟨by omega, by omega⟩)) (show inb (0, 200) n4 from ⟨by omega, by omega⟩)) (show 0 ≤ ((iv 1 7) : Int32).toInt ∧ ((iv 1 7) : Int32).toInt ≤ 7 from ⟨by omega, by omega⟩) (show 0 ≤ ((iv 1 8) : Int32).toInt ∧ ((iv 1 8) : Int32).toInt ≤ 11 from ⟨by omega, by omega⟩)) (kV 0 ht m_761 m_763 m_22 m_82 m_764 rfl rfl hd_X8_readLet_v ⟨Nat.le_of_ble_eq_true rfl, Nat.le_of_ble_eq_true rfl⟩) (vWZ hP hK hD ((hZ.kept hS.2.1).narrow (free_all hD hS hA)) (rX_8 hK hP)) rfl rfl hl.1 rfl (lv_room (Nat.le_of_ble_eq_true rfl)) dX8_readClause_65 ⟨Nat.le_of_ble_eq_true rfl, Nat.le_of_ble_eq_true rfl⟩) hS (fun q _ h => hFc q h) hFc (fun r16 u t H1 locs ht9 hvm hr16 hB hz1 hk1 hS => ?_)
        obtain ⟨n17, n18, n19, n20, n21, n22, n23, hn20, hn21, hn22, hn23, xr16_0, xr16_1, hr16, rfl⟩ := hr16
        have hn17 : ∀ j, inb (bA 1 2 j) (n17 j) := fun j => full_i _
        have hn18 : ∀ j, inb (bA 1 3 j) (n18 j) := fun j => full_i _
        have hn19 : ∀ j, inb (bA 1 4 j) (n19 j) := fun j => full_i _
        have hn20 : 0 ≤ n20.toInt ∧ n20.toInt ≤ 12 := hn20
        have hn21 : (-1) ≤ n21.toInt ∧ n21.toInt ≤ 200 := hn21
        have hn22 : 0 ≤ n22.toInt ∧ n22.toInt ≤ 5 := hn22
        have hn23 : 0 ≤ n23.toInt ∧ n23.toInt ≤ 200 := hn23
        obtain ⟨hP, hD⟩ := hB
        rw [ht9] at hP
        generalize H1 = H at hP hS ⊢
        have hP : va_P (dC, dI) classes (WX h g ca (u2 (u2 (u2 (u2 iv 8 3 n21) 8 4 n22) 8 5 n23) 1 8 n20) lv (u2 (u2 (u2 fa 1 2 n17) 1 3 n18) 1 4 n19) la) H := hP
        have hD : va_D A (WX h g ca (u2 (u2 (u2 (u2 iv 8 3 n21) 8 4 n22) 8 5 n23) 1 8 n20) lv (u2 (u2 (u2 fa 1 2 n17) 1 3 n18) 1 4 n19) la) := (show va_D _ (WX h g ca (u2 (u2 (u2 (u2 iv 8 3 n21) 8 4 n22) 8 5 n23) 1 8 n20) lv (u2 (u2 (u2 fa 1 2 n17) 1 3 n18) 1 4 n19) la) from hD).weaken (fun _ _ _ h => hFc _ h)
        have xr16_0 : (((r16 : Int32).toInt = 0 ∧ 1 ≤ (n22 : Int32).toInt ∧ (n20 : Int32).toInt = ((iv 1 8) : Int32).toInt ∧ ∃ b kd v1 : Int, LetR (fun j => ((fa 8 1) j).toInt) ((iv 8 2) : Int32).toInt (n4 : Int32).toInt (n22 : Int32).toInt (n21 : Int32).toInt b kd v1 ) ∨ ((r16 : Int32).toInt = 1 ∧ (n22 : Int32).toInt = (n3 : Int32).toInt ∧ (n21 : Int32).toInt = (n2 : Int32).toInt ∧ (n20 : Int32).toInt = ((iv 1 8) : Int32).toInt + 1 ∧ LetR (fun j => ((fa 8 1) j).toInt) ((iv 8 2) : Int32).toInt (n4 : Int32).toInt 0 0 (n23 : Int32).toInt (n17 (12 * (((iv 1 7) : Int32).toInt).toNat + (((iv 1 8) : Int32).toInt).toNat)).toInt (n18 (12 * (((iv 1 7) : Int32).toInt).toNat + (((iv 1 8) : Int32).toInt).toNat)).toInt)) := xr16_0
        have xr16_1 : ∀ j : Nat, (j : Int) < 12 * ((iv 1 7) : Int32).toInt + ((iv 1 8) : Int32).toInt → n17 j = (fa 1 2) j ∧ n18 j = (fa 1 3) j ∧ n19 j = (fa 1 4) j := xr16_1
        have hP9 : va_P (dC, dI) classes (WX h g ca (u2 (u2 (u2 (u2 iv 1 8 n20) 8 3 n21) 8 4 n22) 8 5 n23) lv (u2 (u2 (u2 (u2 fa 1 2 n17) 1 3 n18) 1 4 n19) 1 5 (fa 1 5)) la) H := hP
        have hD9 : va_D A (WX h g ca (u2 (u2 (u2 (u2 iv 1 8 n20) 8 3 n21) 8 4 n22) 8 5 n23) lv (u2 (u2 (u2 (u2 fa 1 2 n17) 1 3 n18) 1 4 n19) 1 5 (fa 1 5)) la) := hD
        exact W.zret (v := r16) hx hb hr (nar01 ⟨by omega, by omega⟩) (fun t ht9 hW => ⟨⟨r16, ((u2 (u2 (u2 (u2 iv 1 8 n20) 8 3 n21) 8 4 n22) 8 5 n23), lv, (u2 (u2 (u2 (u2 fa 1 2 n17) 1 3 n18) 1 4 n19) 1 5 (fa 1 5)), la), rfl, ⟨n17, n18, n19, (fa 1 5), n20, n21, n22, n23, (show inb (0, 12) n20 from ⟨by omega, by omega⟩), (show inb ((-1), 200) n21 from ⟨by omega, by omega⟩), (show inb (0, 5) n22 from ⟨by omega, by omega⟩), (show inb (0, 200) n23 from ⟨by omega, by omega⟩), (show (((r16 : Int32).toInt = 0 ∧ 1 ≤ (n22 : Int32).toInt ∧ (n20 : Int32).toInt = (iv 1 8).toInt ∧ ∃ (b kd v1 v2 : Int) (wd : Nat → Int), ClR (fun j => ((fa 8 1) j).toInt) ((iv 8 2) : Int32).toInt (iv 1 7).toInt (iv 8 5).toInt (iv 1 8).toInt (n22 : Int32).toInt (n21 : Int32).toInt b kd v1 v2 wd) ∨ ((r16 : Int32).toInt = 1 ∧ (n22 : Int32).toInt = (iv 8 4).toInt ∧ (n21 : Int32).toInt = (iv 8 3).toInt ∧ (n20 : Int32).toInt = (iv 1 8).toInt + 1 ∧ (iv 1 8).toInt ≤ 11 ∧ ClR (fun j => ((fa 8 1) j).toInt) ((iv 8 2) : Int32).toInt (iv 1 7).toInt (iv 8 5).toInt (iv 1 8).toInt 0 0 (n23 : Int32).toInt (n17 (12 * ((iv 1 7).toInt).toNat + ((iv 1 8).toInt).toNat)).toInt (n18 (12 * ((iv 1 7).toInt).toNat + ((iv 1 8).toInt).toNat)).toInt (n19 (12 * ((iv 1 7).toInt).toNat + ((iv 1 8).toInt).toNat)).toInt (fun j => ((fa 1 5) ((8 * (12 * ((iv 1 7).toInt).toNat + ((iv 1 8).toInt).toNat)) + j)).toInt))) from (by
              obtain ⟨s, e, k1, k2, k3⟩ := xr1_0
              have es := Sk_un (by omega) hs0 k1
              subst es
              rcases k3 with ⟨k4, -⟩ | ⟨k4, k5, k6, k7, k8⟩
              · exfalso; omega
              · have z9 : (0 : Int32).toInt = 0 := by decide
                rcases xr16_0 with ⟨p1, p2, p3, b, kd, v1, p4⟩ | ⟨p1, p2, p3, p4, p5⟩
                · rw [k8] at p4; exact Or.inl ⟨by omega, by omega, by omega, b, kd, v1, 0, (fun _ => 0), e, k2, Or.inr (Or.inr (Or.inl ⟨by omega, by omega, p4⟩))⟩
                · rw [k8] at p5; exact Or.inr ⟨by omega, by omega, by omega, by omega, by omega, e, k2, Or.inr (Or.inr (Or.inl ⟨by omega, by omega, p5⟩))⟩)), (show ∀ j : Nat, (j : Int) < 12 * (iv 1 7).toInt + (iv 1 8).toInt → n17 j = (fa 1 2) j ∧ n18 j = (fa 1 3) j ∧ n19 j = (fa 1 4) j from xr16_1), (show ∀ j : Nat, (j : Int) < (8 * (12 * (iv 1 7).toInt + (iv 1 8).toInt)) → (fa 1 5) j = (fa 1 5) j from fun j hj => rfl), ⟨by omega, by omega⟩, rfl⟩, by rw [ht9]; exact hP9, hD9⟩, hS.F ht9⟩) hS.2.2 dX8_readClause_68
      · refine lv_tableIn (tgt := 69) (off := 30) hx hb dX8_readClause_39 (by decide) (by decide) rfl (by decide) ?_
        refine lv_aload_n hx hb dX8_readClause_69 rfl (lv_at hl 2 rfl) ?_
        have i_1_7 : 0 ≤ (iv 1 7).toInt ∧ (iv 1 7).toInt ≤ 8 := hI.1 1 7
        have hFc := free_all hD hS hA
        refine va_calli (va_runV (As := []) (rest := []) ⟨hx, hb, hml, hown, ht⟩ (c_X8_readTake_r l dC dI H.size ak av h g ca (u2 (u2 (u2 iv 8 3 n2) 8 4 n3) 8 5 n4) lv fa la (IX_i (c := 8) (k := 5) (IX_i (c := 8) (k := 4) (IX_i (c := 8) (k := 3) hI (show inb ((-1), 200) n2 from ⟨by omega, by omega⟩)) (show inb (0, 5) n3 from ⟨by omega, by omega⟩)) (show inb (0, 200) n4 from ⟨by omega, by omega⟩)) (show 0 ≤ ((iv 1 7) : Int32).toInt ∧ ((iv 1 7) : Int32).toInt ≤ 7 from ⟨by omega, by omega⟩) (show 0 ≤ ((iv 1 8) : Int32).toInt ∧ ((iv 1 8) : Int32).toInt ≤ 11 from ⟨by omega, by omega⟩)) (kV 0 ht m_783 m_785 m_25 m_82 m_786 rfl rfl hd_X8_readTake_v ⟨Nat.le_of_ble_eq_true rfl, Nat.le_of_ble_eq_true rfl⟩) (vWZ hP hK hD ((hZ.kept hS.2.1).narrow (free_all hD hS hA)) (rX_8 hK hP)) rfl rfl hl.1 rfl (lv_room (Nat.le_of_ble_eq_true rfl)) dX8_readClause_70 ⟨Nat.le_of_ble_eq_true rfl, Nat.le_of_ble_eq_true rfl⟩) hS (fun q _ h => hFc q h) hFc (fun r24 u t H1 locs ht9 hvm hr24 hB hz1 hk1 hS => ?_)
        obtain ⟨n25, n26, n27, n28, n29, n30, n31, hn28, hn29, hn30, hn31, xr24_0, xr24_1, hr24, rfl⟩ := hr24
        have hn25 : ∀ j, inb (bA 1 2 j) (n25 j) := fun j => full_i _
        have hn26 : ∀ j, inb (bA 1 3 j) (n26 j) := fun j => full_i _
        have hn27 : ∀ j, inb (bA 1 4 j) (n27 j) := fun j => full_i _
        have hn28 : 0 ≤ n28.toInt ∧ n28.toInt ≤ 12 := hn28
        have hn29 : (-1) ≤ n29.toInt ∧ n29.toInt ≤ 200 := hn29
        have hn30 : 0 ≤ n30.toInt ∧ n30.toInt ≤ 5 := hn30
        have hn31 : 0 ≤ n31.toInt ∧ n31.toInt ≤ 200 := hn31
        obtain ⟨hP, hD⟩ := hB
        rw [ht9] at hP
        generalize H1 = H at hP hS ⊢
        have hP : va_P (dC, dI) classes (WX h g ca (u2 (u2 (u2 (u2 iv 8 3 n29) 8 4 n30) 8 5 n31) 1 8 n28) lv (u2 (u2 (u2 fa 1 2 n25) 1 3 n26) 1 4 n27) la) H := hP
        have hD : va_D A (WX h g ca (u2 (u2 (u2 (u2 iv 8 3 n29) 8 4 n30) 8 5 n31) 1 8 n28) lv (u2 (u2 (u2 fa 1 2 n25) 1 3 n26) 1 4 n27) la) := (show va_D _ (WX h g ca (u2 (u2 (u2 (u2 iv 8 3 n29) 8 4 n30) 8 5 n31) 1 8 n28) lv (u2 (u2 (u2 fa 1 2 n25) 1 3 n26) 1 4 n27) la) from hD).weaken (fun _ _ _ h => hFc _ h)
        have xr24_0 : (((r24 : Int32).toInt = 0 ∧ 1 ≤ (n30 : Int32).toInt ∧ (n28 : Int32).toInt = ((iv 1 8) : Int32).toInt ∧ ∃ b kd v1 : Int, TakR (fun j => ((fa 8 1) j).toInt) ((iv 8 2) : Int32).toInt (n4 : Int32).toInt (n30 : Int32).toInt (n29 : Int32).toInt b kd v1 ) ∨ ((r24 : Int32).toInt = 1 ∧ (n30 : Int32).toInt = (n3 : Int32).toInt ∧ (n29 : Int32).toInt = (n2 : Int32).toInt ∧ (n28 : Int32).toInt = ((iv 1 8) : Int32).toInt + 1 ∧ TakR (fun j => ((fa 8 1) j).toInt) ((iv 8 2) : Int32).toInt (n4 : Int32).toInt 0 0 (n31 : Int32).toInt (n25 (12 * (((iv 1 7) : Int32).toInt).toNat + (((iv 1 8) : Int32).toInt).toNat)).toInt (n26 (12 * (((iv 1 7) : Int32).toInt).toNat + (((iv 1 8) : Int32).toInt).toNat)).toInt)) := xr24_0
        have xr24_1 : ∀ j : Nat, (j : Int) < 12 * ((iv 1 7) : Int32).toInt + ((iv 1 8) : Int32).toInt → n25 j = (fa 1 2) j ∧ n26 j = (fa 1 3) j ∧ n27 j = (fa 1 4) j := xr24_1
        have hP9 : va_P (dC, dI) classes (WX h g ca (u2 (u2 (u2 (u2 iv 1 8 n28) 8 3 n29) 8 4 n30) 8 5 n31) lv (u2 (u2 (u2 (u2 fa 1 2 n25) 1 3 n26) 1 4 n27) 1 5 (fa 1 5)) la) H := hP
        have hD9 : va_D A (WX h g ca (u2 (u2 (u2 (u2 iv 1 8 n28) 8 3 n29) 8 4 n30) 8 5 n31) lv (u2 (u2 (u2 (u2 fa 1 2 n25) 1 3 n26) 1 4 n27) 1 5 (fa 1 5)) la) := hD
        exact W.zret (v := r24) hx hb hr (nar01 ⟨by omega, by omega⟩) (fun t ht9 hW => ⟨⟨r24, ((u2 (u2 (u2 (u2 iv 1 8 n28) 8 3 n29) 8 4 n30) 8 5 n31), lv, (u2 (u2 (u2 (u2 fa 1 2 n25) 1 3 n26) 1 4 n27) 1 5 (fa 1 5)), la), rfl, ⟨n25, n26, n27, (fa 1 5), n28, n29, n30, n31, (show inb (0, 12) n28 from ⟨by omega, by omega⟩), (show inb ((-1), 200) n29 from ⟨by omega, by omega⟩), (show inb (0, 5) n30 from ⟨by omega, by omega⟩), (show inb (0, 200) n31 from ⟨by omega, by omega⟩), (show (((r24 : Int32).toInt = 0 ∧ 1 ≤ (n30 : Int32).toInt ∧ (n28 : Int32).toInt = (iv 1 8).toInt ∧ ∃ (b kd v1 v2 : Int) (wd : Nat → Int), ClR (fun j => ((fa 8 1) j).toInt) ((iv 8 2) : Int32).toInt (iv 1 7).toInt (iv 8 5).toInt (iv 1 8).toInt (n30 : Int32).toInt (n29 : Int32).toInt b kd v1 v2 wd) ∨ ((r24 : Int32).toInt = 1 ∧ (n30 : Int32).toInt = (iv 8 4).toInt ∧ (n29 : Int32).toInt = (iv 8 3).toInt ∧ (n28 : Int32).toInt = (iv 1 8).toInt + 1 ∧ (iv 1 8).toInt ≤ 11 ∧ ClR (fun j => ((fa 8 1) j).toInt) ((iv 8 2) : Int32).toInt (iv 1 7).toInt (iv 8 5).toInt (iv 1 8).toInt 0 0 (n31 : Int32).toInt (n25 (12 * ((iv 1 7).toInt).toNat + ((iv 1 8).toInt).toNat)).toInt (n26 (12 * ((iv 1 7).toInt).toNat + ((iv 1 8).toInt).toNat)).toInt (n27 (12 * ((iv 1 7).toInt).toNat + ((iv 1 8).toInt).toNat)).toInt (fun j => ((fa 1 5) ((8 * (12 * ((iv 1 7).toInt).toNat + ((iv 1 8).toInt).toNat)) + j)).toInt))) from (by
              obtain ⟨s, e, k1, k2, k3⟩ := xr1_0
              have es := Sk_un (by omega) hs0 k1
              subst es
              rcases k3 with ⟨k4, -⟩ | ⟨k4, k5, k6, k7, k8⟩
              · exfalso; omega
              · have z9 : (1 : Int32).toInt = 1 := by decide
                rcases xr24_0 with ⟨p1, p2, p3, b, kd, v1, p4⟩ | ⟨p1, p2, p3, p4, p5⟩
                · rw [k8] at p4; exact Or.inl ⟨by omega, by omega, by omega, b, kd, v1, 0, (fun _ => 0), e, k2, Or.inr (Or.inr (Or.inr (Or.inl ⟨by omega, by omega, p4⟩)))⟩
                · rw [k8] at p5; exact Or.inr ⟨by omega, by omega, by omega, by omega, by omega, e, k2, Or.inr (Or.inr (Or.inr (Or.inl ⟨by omega, by omega, p5⟩)))⟩)), (show ∀ j : Nat, (j : Int) < 12 * (iv 1 7).toInt + (iv 1 8).toInt → n25 j = (fa 1 2) j ∧ n26 j = (fa 1 3) j ∧ n27 j = (fa 1 4) j from xr24_1), (show ∀ j : Nat, (j : Int) < (8 * (12 * (iv 1 7).toInt + (iv 1 8).toInt)) → (fa 1 5) j = (fa 1 5) j from fun j hj => rfl), ⟨by omega, by omega⟩, rfl⟩, by rw [ht9]; exact hP9, hD9⟩, hS.F ht9⟩) hS.2.2 dX8_readClause_73
      · refine lv_tableIn (tgt := 74) (off := 35) hx hb dX8_readClause_39 (by decide) (by decide) rfl (by decide) ?_
        refine lv_aload_n hx hb dX8_readClause_74 rfl (lv_at hl 2 rfl) ?_
        have i_1_7 : 0 ≤ (iv 1 7).toInt ∧ (iv 1 7).toInt ≤ 8 := hI.1 1 7
        have hFc := free_all hD hS hA
        refine va_calli (va_runV (As := []) (rest := []) ⟨hx, hb, hml, hown, ht⟩ (c_X8_readName_r l dC dI H.size ak av h g ca (u2 (u2 (u2 iv 8 3 n2) 8 4 n3) 8 5 n4) lv fa la (IX_i (c := 8) (k := 5) (IX_i (c := 8) (k := 4) (IX_i (c := 8) (k := 3) hI (show inb ((-1), 200) n2 from ⟨by omega, by omega⟩)) (show inb (0, 5) n3 from ⟨by omega, by omega⟩)) (show inb (0, 200) n4 from ⟨by omega, by omega⟩)) (show 0 ≤ ((iv 1 7) : Int32).toInt ∧ ((iv 1 7) : Int32).toInt ≤ 7 from ⟨by omega, by omega⟩) (show 0 ≤ ((iv 1 8) : Int32).toInt ∧ ((iv 1 8) : Int32).toInt ≤ 11 from ⟨by omega, by omega⟩)) (kV 0 ht m_788 m_790 m_26 m_82 m_791 rfl rfl hd_X8_readName_v ⟨Nat.le_of_ble_eq_true rfl, Nat.le_of_ble_eq_true rfl⟩) (vWZ hP hK hD ((hZ.kept hS.2.1).narrow (free_all hD hS hA)) (rX_8 hK hP)) rfl rfl hl.1 rfl (lv_room (Nat.le_of_ble_eq_true rfl)) dX8_readClause_75 ⟨Nat.le_of_ble_eq_true rfl, Nat.le_of_ble_eq_true rfl⟩) hS (fun q _ h => hFc q h) hFc (fun r32 u t H1 locs ht9 hvm hr32 hB hz1 hk1 hS => ?_)
        obtain ⟨n33, n34, n35, n36, n37, n38, n39, n40, hn37, hn38, hn39, hn40, xr32_0, xr32_1, xr32_2, hr32, rfl⟩ := hr32
        have hn33 : ∀ j, inb (bA 1 2 j) (n33 j) := fun j => full_i _
        have hn34 : ∀ j, inb (bA 1 3 j) (n34 j) := fun j => full_i _
        have hn35 : ∀ j, inb (bA 1 4 j) (n35 j) := fun j => full_i _
        have hn36 : ∀ j, inb (bA 1 5 j) (n36 j) := fun j => full_i _
        have hn37 : 0 ≤ n37.toInt ∧ n37.toInt ≤ 12 := hn37
        have hn38 : (-1) ≤ n38.toInt ∧ n38.toInt ≤ 200 := hn38
        have hn39 : 0 ≤ n39.toInt ∧ n39.toInt ≤ 5 := hn39
        have hn40 : 0 ≤ n40.toInt ∧ n40.toInt ≤ 200 := hn40
        obtain ⟨hP, hD⟩ := hB
        rw [ht9] at hP
        generalize H1 = H at hP hS ⊢
        have hP : va_P (dC, dI) classes (WX h g ca (u2 (u2 (u2 (u2 iv 8 3 n38) 8 4 n39) 8 5 n40) 1 8 n37) lv (u2 (u2 (u2 (u2 fa 1 2 n33) 1 3 n34) 1 4 n35) 1 5 n36) la) H := hP
        have hD : va_D A (WX h g ca (u2 (u2 (u2 (u2 iv 8 3 n38) 8 4 n39) 8 5 n40) 1 8 n37) lv (u2 (u2 (u2 (u2 fa 1 2 n33) 1 3 n34) 1 4 n35) 1 5 n36) la) := (show va_D _ (WX h g ca (u2 (u2 (u2 (u2 iv 8 3 n38) 8 4 n39) 8 5 n40) 1 8 n37) lv (u2 (u2 (u2 (u2 fa 1 2 n33) 1 3 n34) 1 4 n35) 1 5 n36) la) from hD).weaken (fun _ _ _ h => hFc _ h)
        have xr32_0 : (((r32 : Int32).toInt = 0 ∧ 1 ≤ (n39 : Int32).toInt ∧ (n37 : Int32).toInt = ((iv 1 8) : Int32).toInt ∧ ∃ (b kd v1 v2 : Int) (wd : Nat → Int), NamR (fun j => ((fa 8 1) j).toInt) ((iv 8 2) : Int32).toInt (n4 : Int32).toInt (n39 : Int32).toInt (n38 : Int32).toInt b kd v1 v2 wd) ∨ ((r32 : Int32).toInt = 1 ∧ (n39 : Int32).toInt = (n3 : Int32).toInt ∧ (n38 : Int32).toInt = (n2 : Int32).toInt ∧ (n37 : Int32).toInt = ((iv 1 8) : Int32).toInt + 1 ∧ NamR (fun j => ((fa 8 1) j).toInt) ((iv 8 2) : Int32).toInt (n4 : Int32).toInt 0 0 (n40 : Int32).toInt (n33 (12 * (((iv 1 7) : Int32).toInt).toNat + (((iv 1 8) : Int32).toInt).toNat)).toInt (n34 (12 * (((iv 1 7) : Int32).toInt).toNat + (((iv 1 8) : Int32).toInt).toNat)).toInt (n35 (12 * (((iv 1 7) : Int32).toInt).toNat + (((iv 1 8) : Int32).toInt).toNat)).toInt (fun j => (n36 ((8 * (12 * (((iv 1 7) : Int32).toInt).toNat + (((iv 1 8) : Int32).toInt).toNat)) + j)).toInt))) := xr32_0
        have xr32_1 : ∀ j : Nat, (j : Int) < 12 * ((iv 1 7) : Int32).toInt + ((iv 1 8) : Int32).toInt → n33 j = (fa 1 2) j ∧ n34 j = (fa 1 3) j ∧ n35 j = (fa 1 4) j := xr32_1
        have xr32_2 : ∀ j : Nat, (j : Int) < (8 * (12 * ((iv 1 7) : Int32).toInt + ((iv 1 8) : Int32).toInt)) → n36 j = (fa 1 5) j := xr32_2
        have hP9 : va_P (dC, dI) classes (WX h g ca (u2 (u2 (u2 (u2 iv 1 8 n37) 8 3 n38) 8 4 n39) 8 5 n40) lv (u2 (u2 (u2 (u2 fa 1 2 n33) 1 3 n34) 1 4 n35) 1 5 n36) la) H := hP
        have hD9 : va_D A (WX h g ca (u2 (u2 (u2 (u2 iv 1 8 n37) 8 3 n38) 8 4 n39) 8 5 n40) lv (u2 (u2 (u2 (u2 fa 1 2 n33) 1 3 n34) 1 4 n35) 1 5 n36) la) := hD
        exact W.zret (v := r32) hx hb hr (nar01 ⟨by omega, by omega⟩) (fun t ht9 hW => ⟨⟨r32, ((u2 (u2 (u2 (u2 iv 1 8 n37) 8 3 n38) 8 4 n39) 8 5 n40), lv, (u2 (u2 (u2 (u2 fa 1 2 n33) 1 3 n34) 1 4 n35) 1 5 n36), la), rfl, ⟨n33, n34, n35, n36, n37, n38, n39, n40, (show inb (0, 12) n37 from ⟨by omega, by omega⟩), (show inb ((-1), 200) n38 from ⟨by omega, by omega⟩), (show inb (0, 5) n39 from ⟨by omega, by omega⟩), (show inb (0, 200) n40 from ⟨by omega, by omega⟩), (show (((r32 : Int32).toInt = 0 ∧ 1 ≤ (n39 : Int32).toInt ∧ (n37 : Int32).toInt = (iv 1 8).toInt ∧ ∃ (b kd v1 v2 : Int) (wd : Nat → Int), ClR (fun j => ((fa 8 1) j).toInt) ((iv 8 2) : Int32).toInt (iv 1 7).toInt (iv 8 5).toInt (iv 1 8).toInt (n39 : Int32).toInt (n38 : Int32).toInt b kd v1 v2 wd) ∨ ((r32 : Int32).toInt = 1 ∧ (n39 : Int32).toInt = (iv 8 4).toInt ∧ (n38 : Int32).toInt = (iv 8 3).toInt ∧ (n37 : Int32).toInt = (iv 1 8).toInt + 1 ∧ (iv 1 8).toInt ≤ 11 ∧ ClR (fun j => ((fa 8 1) j).toInt) ((iv 8 2) : Int32).toInt (iv 1 7).toInt (iv 8 5).toInt (iv 1 8).toInt 0 0 (n40 : Int32).toInt (n33 (12 * ((iv 1 7).toInt).toNat + ((iv 1 8).toInt).toNat)).toInt (n34 (12 * ((iv 1 7).toInt).toNat + ((iv 1 8).toInt).toNat)).toInt (n35 (12 * ((iv 1 7).toInt).toNat + ((iv 1 8).toInt).toNat)).toInt (fun j => (n36 ((8 * (12 * ((iv 1 7).toInt).toNat + ((iv 1 8).toInt).toNat)) + j)).toInt))) from (by
              obtain ⟨s, e, k1, k2, k3⟩ := xr1_0
              have es := Sk_un (by omega) hs0 k1
              subst es
              rcases k3 with ⟨k4, -⟩ | ⟨k4, k5, k6, k7, k8⟩
              · exfalso; omega
              · have z9 : (2 : Int32).toInt = 2 := by decide
                rcases xr32_0 with ⟨p1, p2, p3, b, kd, v1, v2, wd, p4⟩ | ⟨p1, p2, p3, p4, p5⟩
                · rw [k8] at p4; exact Or.inl ⟨by omega, by omega, by omega, b, kd, v1, v2, wd, e, k2, Or.inr (Or.inr (Or.inr (Or.inr (Or.inl ⟨by omega, by omega, p4⟩))))⟩
                · rw [k8] at p5; exact Or.inr ⟨by omega, by omega, by omega, by omega, by omega, e, k2, Or.inr (Or.inr (Or.inr (Or.inr (Or.inl ⟨by omega, by omega, p5⟩))))⟩)), (show ∀ j : Nat, (j : Int) < 12 * (iv 1 7).toInt + (iv 1 8).toInt → n33 j = (fa 1 2) j ∧ n34 j = (fa 1 3) j ∧ n35 j = (fa 1 4) j from xr32_1), (show ∀ j : Nat, (j : Int) < (8 * (12 * (iv 1 7).toInt + (iv 1 8).toInt)) → n36 j = (fa 1 5) j from xr32_2), ⟨by omega, by omega⟩, rfl⟩, by rw [ht9]; exact hP9, hD9⟩, hS.F ht9⟩) hS.2.2 dX8_readClause_78
    · have fc6 := z_nlt (rfl : ((iv 1 8)).toInt = _) (by decide : (12 : Int32).toInt = 12) c6
      refine lv_aload_n hx hb dX8_readClause_31 rfl (lv_at hl 2 rfl) ?_
      refine lv_iconst (v := 5) hx hb dX8_readClause_32 (by decide) ?_
      refine lv_iload_n hx hb dX8_readClause_33 rfl (lv_at hl 1 rfl) ?_
      have hFc := free_all hD hS hA
      refine va_calli (va_runV (As := [.int 5, .int (iv 8 5)]) (rest := []) ⟨hx, hb, hml, hown, ht⟩ (c_X8_fail_r l dC dI H.size h g ca (u2 (u2 (u2 iv 8 3 n2) 8 4 n3) 8 5 n4) lv fa la (IX_i (c := 8) (k := 5) (IX_i (c := 8) (k := 4) (IX_i (c := 8) (k := 3) hI (show inb ((-1), 200) n2 from ⟨by omega, by omega⟩)) (show inb (0, 5) n3 from ⟨by omega, by omega⟩)) (show inb (0, 200) n4 from ⟨by omega, by omega⟩)) 5 (iv 8 5) ⟨by decide, by decide⟩ ⟨by omega, by omega⟩) (kV 2 ht m_757 m_759 m_21 m_82 m_760 rfl rfl hd_X8_fail_v ⟨Nat.le_of_ble_eq_true rfl, Nat.le_of_ble_eq_true rfl⟩) (vW hP hK hD (rX_8 hK hP)) rfl rfl hl.1 rfl (lv_room (Nat.le_of_ble_eq_true rfl)) dX8_readClause_34 ⟨Nat.le_of_ble_eq_true rfl, Nat.le_of_ble_eq_true rfl⟩) hS (fun q _ h => hFc q h) hFc (fun r41 u t H1 locs ht9 hvm hr41 hB hz1 hk1 hS => ?_)
      obtain ⟨n42, n43, hn42, hn43, xr41_0, xr41_1, hr41, rfl⟩ := hr41
      have hn42 : (-1) ≤ n42.toInt ∧ n42.toInt ≤ 200 := hn42
      have hn43 : 0 ≤ n43.toInt ∧ n43.toInt ≤ 5 := hn43
      obtain ⟨hP, hD⟩ := hB
      rw [ht9] at hP
      generalize H1 = H at hP hS ⊢
      have hP : va_P (dC, dI) classes (WX h g ca (u2 (u2 (u2 iv 8 3 n42) 8 4 n43) 8 5 n4) lv fa la) H := hP
      have hD : va_D A (WX h g ca (u2 (u2 (u2 iv 8 3 n42) 8 4 n43) 8 5 n4) lv fa la) := (show va_D _ (WX h g ca (u2 (u2 (u2 iv 8 3 n42) 8 4 n43) 8 5 n4) lv fa la) from hD).weaken (fun _ _ _ h => hFc _ h)
      have : (5 : Int32).toInt = 5 := (by decide)
      have xr41_0 : (n43 : Int32).toInt = (5 : Int32).toInt := xr41_0
      have xr41_1 : (n42 : Int32).toInt = ((iv 8 5) : Int32).toInt := xr41_1
      have hP9 : va_P (dC, dI) classes (WX h g ca (u2 (u2 (u2 (u2 iv 1 8 (iv 1 8)) 8 3 n42) 8 4 n43) 8 5 n4) lv (u2 (u2 (u2 (u2 fa 1 2 (fa 1 2)) 1 3 (fa 1 3)) 1 4 (fa 1 4)) 1 5 (fa 1 5)) la) H := hP
      have hD9 : va_D A (WX h g ca (u2 (u2 (u2 (u2 iv 1 8 (iv 1 8)) 8 3 n42) 8 4 n43) 8 5 n4) lv (u2 (u2 (u2 (u2 fa 1 2 (fa 1 2)) 1 3 (fa 1 3)) 1 4 (fa 1 4)) 1 5 (fa 1 5)) la) := hD
      exact W.zret (v := r41) hx hb hr (nar01 ⟨by omega, by omega⟩) (fun t ht9 hW => ⟨⟨r41, ((u2 (u2 (u2 (u2 iv 1 8 (iv 1 8)) 8 3 n42) 8 4 n43) 8 5 n4), lv, (u2 (u2 (u2 (u2 fa 1 2 (fa 1 2)) 1 3 (fa 1 3)) 1 4 (fa 1 4)) 1 5 (fa 1 5)), la), rfl, ⟨(fa 1 2), (fa 1 3), (fa 1 4), (fa 1 5), (iv 1 8), n42, n43, n4, (hI.1 1 8), (show inb ((-1), 200) n42 from ⟨by omega, by omega⟩), (show inb (0, 5) n43 from ⟨by omega, by omega⟩), (show inb (0, 200) n4 from ⟨by omega, by omega⟩), (show (((r41 : Int32).toInt = 0 ∧ 1 ≤ (n43 : Int32).toInt ∧ ((iv 1 8) : Int32).toInt = (iv 1 8).toInt ∧ ∃ (b kd v1 v2 : Int) (wd : Nat → Int), ClR (fun j => ((fa 8 1) j).toInt) ((iv 8 2) : Int32).toInt (iv 1 7).toInt (iv 8 5).toInt (iv 1 8).toInt (n43 : Int32).toInt (n42 : Int32).toInt b kd v1 v2 wd) ∨ ((r41 : Int32).toInt = 1 ∧ (n43 : Int32).toInt = (iv 8 4).toInt ∧ (n42 : Int32).toInt = (iv 8 3).toInt ∧ ((iv 1 8) : Int32).toInt = (iv 1 8).toInt + 1 ∧ (iv 1 8).toInt ≤ 11 ∧ ClR (fun j => ((fa 8 1) j).toInt) ((iv 8 2) : Int32).toInt (iv 1 7).toInt (iv 8 5).toInt (iv 1 8).toInt 0 0 (n4 : Int32).toInt ((fa 1 2) (12 * ((iv 1 7).toInt).toNat + ((iv 1 8).toInt).toNat)).toInt ((fa 1 3) (12 * ((iv 1 7).toInt).toNat + ((iv 1 8).toInt).toNat)).toInt ((fa 1 4) (12 * ((iv 1 7).toInt).toNat + ((iv 1 8).toInt).toNat)).toInt (fun j => ((fa 1 5) ((8 * (12 * ((iv 1 7).toInt).toNat + ((iv 1 8).toInt).toNat)) + j)).toInt))) from (by
            obtain ⟨s, e, k1, k2, k3⟩ := xr1_0
            have es := Sk_un (by omega) hs0 k1
            subst es
            rcases k3 with ⟨k4, -⟩ | ⟨k4, k5, k6, k7, k8⟩
            · exfalso; omega
            · exact Or.inl ⟨by omega, by omega, by omega, 0, 0, 0, 0, (fun _ => 0), e, k2, Or.inr (Or.inl ⟨by omega, by omega, by omega, by omega⟩)⟩)), (show ∀ j : Nat, (j : Int) < 12 * (iv 1 7).toInt + (iv 1 8).toInt → (fa 1 2) j = (fa 1 2) j ∧ (fa 1 3) j = (fa 1 3) j ∧ (fa 1 4) j = (fa 1 4) j from fun j hj => ⟨rfl, rfl, rfl⟩), (show ∀ j : Nat, (j : Int) < (8 * (12 * (iv 1 7).toInt + (iv 1 8).toInt)) → (fa 1 5) j = (fa 1 5) j from fun j hj => rfl), ⟨by omega, by omega⟩, rfl⟩, by rw [ht9]; exact hP9, hD9⟩, hS.F ht9⟩) hS.2.2 dX8_readClause_37
  · have fc5 := z_eq (rfl : (r1).toInt = _) (by decide : ((-1) : Int32).toInt = (-1)) c5
    refine lv_iconst (v := 0) hx hb dX8_readClause_17 (by decide) ?_
    have : (0 : Int32).toInt = 0 := (by decide)
    have i_1_8 : 0 ≤ (iv 1 8).toInt ∧ (iv 1 8).toInt ≤ 12 := hI.1 1 8
    have hP9 : va_P (dC, dI) classes (WX h g ca (u2 (u2 (u2 (u2 iv 1 8 (iv 1 8)) 8 3 n2) 8 4 n3) 8 5 n4) lv (u2 (u2 (u2 (u2 fa 1 2 (fa 1 2)) 1 3 (fa 1 3)) 1 4 (fa 1 4)) 1 5 (fa 1 5)) la) H := hP
    have hD9 : va_D A (WX h g ca (u2 (u2 (u2 (u2 iv 1 8 (iv 1 8)) 8 3 n2) 8 4 n3) 8 5 n4) lv (u2 (u2 (u2 (u2 fa 1 2 (fa 1 2)) 1 3 (fa 1 3)) 1 4 (fa 1 4)) 1 5 (fa 1 5)) la) := hD
    exact W.zret (v := 0) hx hb hr rfl (fun t ht9 hW => ⟨⟨0, ((u2 (u2 (u2 (u2 iv 1 8 (iv 1 8)) 8 3 n2) 8 4 n3) 8 5 n4), lv, (u2 (u2 (u2 (u2 fa 1 2 (fa 1 2)) 1 3 (fa 1 3)) 1 4 (fa 1 4)) 1 5 (fa 1 5)), la), rfl, ⟨(fa 1 2), (fa 1 3), (fa 1 4), (fa 1 5), (iv 1 8), n2, n3, n4, (hI.1 1 8), (show inb ((-1), 200) n2 from ⟨by omega, by omega⟩), (show inb (0, 5) n3 from ⟨by omega, by omega⟩), (show inb (0, 200) n4 from ⟨by omega, by omega⟩), (show (((0 : Int32).toInt = 0 ∧ 1 ≤ (n3 : Int32).toInt ∧ ((iv 1 8) : Int32).toInt = (iv 1 8).toInt ∧ ∃ (b kd v1 v2 : Int) (wd : Nat → Int), ClR (fun j => ((fa 8 1) j).toInt) ((iv 8 2) : Int32).toInt (iv 1 7).toInt (iv 8 5).toInt (iv 1 8).toInt (n3 : Int32).toInt (n2 : Int32).toInt b kd v1 v2 wd) ∨ ((0 : Int32).toInt = 1 ∧ (n3 : Int32).toInt = (iv 8 4).toInt ∧ (n2 : Int32).toInt = (iv 8 3).toInt ∧ ((iv 1 8) : Int32).toInt = (iv 1 8).toInt + 1 ∧ (iv 1 8).toInt ≤ 11 ∧ ClR (fun j => ((fa 8 1) j).toInt) ((iv 8 2) : Int32).toInt (iv 1 7).toInt (iv 8 5).toInt (iv 1 8).toInt 0 0 (n4 : Int32).toInt ((fa 1 2) (12 * ((iv 1 7).toInt).toNat + ((iv 1 8).toInt).toNat)).toInt ((fa 1 3) (12 * ((iv 1 7).toInt).toNat + ((iv 1 8).toInt).toNat)).toInt ((fa 1 4) (12 * ((iv 1 7).toInt).toNat + ((iv 1 8).toInt).toNat)).toInt (fun j => ((fa 1 5) ((8 * (12 * ((iv 1 7).toInt).toNat + ((iv 1 8).toInt).toNat)) + j)).toInt))) from (by
          obtain ⟨s, e, k1, k2, k3⟩ := xr1_0
          have es := Sk_un (by omega) hs0 k1
          subst es
          rcases k3 with ⟨k4, k5, k6, k7⟩ | ⟨k4, -⟩
          · exact Or.inl ⟨by omega, by omega, by omega, 0, 0, 0, 0, (fun _ => 0), e, k2, Or.inl ⟨k5, k6, k7⟩⟩
          · exfalso; omega)), (show ∀ j : Nat, (j : Int) < 12 * (iv 1 7).toInt + (iv 1 8).toInt → (fa 1 2) j = (fa 1 2) j ∧ (fa 1 3) j = (fa 1 3) j ∧ (fa 1 4) j = (fa 1 4) j from fun j hj => ⟨rfl, rfl, rfl⟩), (show ∀ j : Nat, (j : Int) < (8 * (12 * (iv 1 7).toInt + (iv 1 8).toInt)) → (fa 1 5) j = (fa 1 5) j from fun j hj => rfl), ⟨by decide, by decide⟩, rfl⟩, by rw [ht9]; exact hP9, hD9⟩, hS.F ht9⟩) hS.2.2 dX8_readClause_18
/-! ===== rd7 ===== -/
set_option maxHeartbeats 4000000 in
set_option maxRecDepth 100000 in
/-- X8_read -/
theorem c_X8_read_r (l : Launch) (dC : Nat → ClassId) (dI : Nat → Nat → Nat) (sz : Nat) (ak av : Nat → Nat) (h : Nat) (g : Nat → Nat → Nat) (ca : Nat → Nat → ClassId) (iv : Nat → Nat → Int32) (lv : Nat → Nat → Int64) (fa : Nat → Nat → Nat → Int32) (la : Nat → Nat → Nat → Int64) (hI : IX iv fa) (q_1_7 : 0 ≤ (iv 1 7).toInt ∧ (iv 1 7).toInt ≤ 7) : Met l yX8_read (wc yX8_read cX8_read 3 (some .int)) ({ frames := 8, cells := 0, slots := 0, locals := 179 } : Room) (pWZ ak av (dC, dI) classes (WX h g ca iv lv fa la) (TX ca) sz [.ref (g 11 4)]) (va_Qi (fun r (u : SS) => ∃ (na_1_2 : Nat → Int32) (na_1_3 : Nat → Int32) (na_1_4 : Nat → Int32) (na_1_5 : Nat → Int32) (ni_1_8 : Int32) (ni_8_2 : Int32) (ni_8_3 : Int32) (ni_8_4 : Int32) (ni_8_5 : Int32), inb (bI 1 8) ni_1_8 ∧ inb (bI 8 2) ni_8_2 ∧ inb (bI 8 3) ni_8_3 ∧ inb (bI 8 4) ni_8_4 ∧ inb (bI 8 5) ni_8_5 ∧ (Out (fun j => ((fa 8 1) j).toInt) (iv 8 2).toInt (iv 1 7).toInt (ni_8_4).toInt (ni_8_3).toInt ((ni_1_8).toInt).toNat (fun i => (na_1_2 (12 * ((iv 1 7).toInt).toNat + i)).toInt) (fun i => (na_1_3 (12 * ((iv 1 7).toInt).toNat + i)).toInt) (fun i => (na_1_4 (12 * ((iv 1 7).toInt).toNat + i)).toInt) (fun i j => (na_1_5 (8 * (12 * ((iv 1 7).toInt).toNat + i) + j)).toInt)) ∧ (((ni_8_4).toInt ≠ 0 ∨ (ni_8_3).toInt = -1)) ∧ (r.toInt = (ni_8_4).toInt) ∧ ((ni_8_2).toInt = 0) ∧ (∀ j : Nat, (j : Int) < 12 * (iv 1 7).toInt → na_1_2 j = (fa 1 2) j ∧ na_1_3 j = (fa 1 3) j ∧ na_1_4 j = (fa 1 4) j) ∧ (∀ j : Nat, (j : Int) < 96 * (iv 1 7).toInt → na_1_5 j = (fa 1 5) j) ∧ (0 ≤ r.toInt ∧ r.toInt ≤ 5) ∧ u = ((u2 (u2 (u2 (u2 (u2 iv 1 8 ni_1_8) 8 2 ni_8_2) 8 3 ni_8_3) 8 4 ni_8_4) 8 5 ni_8_5), lv, (u2 (u2 (u2 (u2 fa 1 2 na_1_2) 1 3 na_1_3) 1 4 na_1_4) 1 5 na_1_5), la)) (bX (dC, dI) h g ca (va_A (WX h g ca iv lv fa la) sz)) (va_A (WX h g ca iv lv fa la) sz)) 0 0 (va_A (WX h g ca iv lv fa la) sz) := by
  refine Met.ofW (cc := cX8_read) (maxL := 3) (ret := (some .int)) (by decide) rfl ?_
  intro p e s m args below meth c s₁ B hml hv
  obtain ⟨rfl, hsz, hP, hK, hD0, hZ⟩ := hv
  have hx := B.exec
  have hb := B.bytes
  have hr := B.returns
  have ht := tb_tl (atoms_spec (ws := wc yX8_read cX8_read 3 (some .int)) B.pre)
  have hown : s.vm.findClass RX8 = some m.cls := findClass_of_methodNamed B.named
  have hlocks := B.notSynchronized
  subst hsz
  have hD := hD0.self (sz := s.heap.size)
  generalize hAe : va_A (WX h g ca iv lv fa la) s.heap.size = A at hD hZ ⊢
  have hA : ∀ q : Nat, s.heap.size ≤ q → A q := fun q h => by rw [← hAe]; exact Or.inr h
  have hS : va_S A s.heap s.heap [] := va_S.rf
  have hl := lv_entry [.ref (g 11 4)] (n := 3) (Nat.le_of_ble_eq_true rfl)
  rw [lg_entry_eq]
  generalize (lg_sl [.ref (g 11 4)] ++ List.replicate (3 - (lg_sl [.ref (g 11 4)]).length) Slot.unset).toArray = ls at hl ⊢
  have hl : lv_has ls 3 [(0, .ref (g 11 4))] := hl
  refine lv_aload_n hx hb dX8_read_0 rfl (lv_at hl 0 rfl) ?_
  refine lv_iconst (v := 0) hx hb dX8_read_1 (by decide) ?_
  refine pX_8_5 (v := 0) hx hb ht hown hK hP hD hS m_235 dX8_read_2 (fun H locs hP hD hS => ?_)
  refine lv_aload_n hx hb dX8_read_5 rfl (lv_at hl 0 rfl) ?_
  refine lv_iconst (v := 0) hx hb dX8_read_6 (by decide) ?_
  refine pX_8_4 (v := 0) hx hb ht hown hK hP hD hS m_234 dX8_read_7 (fun H locs hP hD hS => ?_)
  refine lv_aload_n hx hb dX8_read_10 rfl (lv_at hl 0 rfl) ?_
  refine lv_iconst (v := (-1)) hx hb dX8_read_11 (by decide) ?_
  refine pX_8_3 (v := (-1)) hx hb ht hown hK hP hD hS m_232 dX8_read_12 (fun H locs hP hD hS => ?_)
  refine lv_aload_n hx hb dX8_read_15 rfl (lv_at hl 0 rfl) ?_
  refine gX_8_0 hx hb ht hown hK hP m_228 dX8_read_16 ?_
  have hFc := free_all hD hS hA
  refine va_callv (va_runV (As := []) (rest := []) ⟨hx, hb, hml, hown, ht⟩ (c_X1_startDraft_r l dC dI H.size h g ca (u2 (u2 (u2 iv 8 5 0) 8 4 0) 8 3 (-1)) lv fa la (IX_i (c := 8) (k := 3) (IX_i (c := 8) (k := 4) (IX_i (c := 8) (k := 5) hI (show inb (0, 200) 0 from ⟨by decide, by decide⟩)) (show inb (0, 5) 0 from ⟨by decide, by decide⟩)) (show inb ((-1), 200) (-1) from ⟨by decide, by decide⟩))) (kV 0 ht m_684 m_685 m_686 m_81 m_687 rfl rfl hd_X1_startDraft_v ⟨Nat.le_of_ble_eq_true rfl, Nat.le_of_ble_eq_true rfl⟩) (vW hP hK hD (rX_1 hK hP)) rfl rfl hl.1 rfl (lv_room (Nat.le_of_ble_eq_true rfl)) dX8_read_19 ⟨Nat.le_of_ble_eq_true rfl, Nat.le_of_ble_eq_true rfl⟩) hS (fun q _ h => hFc q h) hFc (fun u t H1 locs ht9 hvm hr1 hB hz1 hk1 hS => ?_)
  obtain ⟨n2, hn2, xr1_0, rfl⟩ := hr1
  have hn2 : 0 ≤ n2.toInt ∧ n2.toInt ≤ 12 := hn2
  obtain ⟨hP, hD⟩ := hB
  rw [ht9] at hP
  generalize H1 = H at hP hS ⊢
  have hP : va_P (dC, dI) classes (WX h g ca (u2 (u2 (u2 (u2 iv 8 5 0) 8 4 0) 8 3 (-1)) 1 8 n2) lv fa la) H := hP
  have hD : va_D A (WX h g ca (u2 (u2 (u2 (u2 iv 8 5 0) 8 4 0) 8 3 (-1)) 1 8 n2) lv fa la) := (show va_D _ (WX h g ca (u2 (u2 (u2 (u2 iv 8 5 0) 8 4 0) 8 3 (-1)) 1 8 n2) lv fa la) from hD).weaken (fun _ _ _ h => hFc _ h)
  have xr1_0 : (n2 : Int32).toInt = 0 := xr1_0
  refine lv_aload_n hx hb dX8_read_22 rfl (lv_at hl 0 rfl) ?_
  have hFc := free_all hD hS hA
  refine va_calli (va_runV (As := []) (rest := []) ⟨hx, hb, hml, hown, ht⟩ (c_X8_skipBlanks_r l dC dI H.size h g ca (u2 (u2 (u2 (u2 iv 8 5 0) 8 4 0) 8 3 (-1)) 1 8 n2) lv fa la (IX_i (c := 1) (k := 8) (IX_i (c := 8) (k := 3) (IX_i (c := 8) (k := 4) (IX_i (c := 8) (k := 5) hI (show inb (0, 200) 0 from ⟨by decide, by decide⟩)) (show inb (0, 5) 0 from ⟨by decide, by decide⟩)) (show inb ((-1), 200) (-1) from ⟨by decide, by decide⟩)) (show inb (0, 12) n2 from ⟨by omega, by omega⟩))) (kV 0 ht m_688 m_690 m_16 m_82 m_691 rfl rfl hd_X8_skipBlanks_v ⟨Nat.le_of_ble_eq_true rfl, Nat.le_of_ble_eq_true rfl⟩) (vW hP hK hD (rX_8 hK hP)) rfl rfl hl.1 rfl (lv_room (Nat.le_of_ble_eq_true rfl)) dX8_read_23 ⟨Nat.le_of_ble_eq_true rfl, Nat.le_of_ble_eq_true rfl⟩) hS (fun q _ h => hFc q h) hFc (fun r3 u t H1 locs ht9 hvm hr3 hB hz1 hk1 hS => ?_)
  obtain ⟨n4, hn4, xr3_0, xr3_1, hr3, rfl⟩ := hr3
  have hn4 : 0 ≤ n4.toInt ∧ n4.toInt ≤ 200 := hn4
  obtain ⟨hP, hD⟩ := hB
  rw [ht9] at hP
  generalize H1 = H at hP hS ⊢
  have hP : va_P (dC, dI) classes (WX h g ca (u2 (u2 (u2 (u2 iv 8 5 n4) 8 4 0) 8 3 (-1)) 1 8 n2) lv fa la) H := hP
  have hD : va_D A (WX h g ca (u2 (u2 (u2 (u2 iv 8 5 n4) 8 4 0) 8 3 (-1)) 1 8 n2) lv fa la) := (show va_D _ (WX h g ca (u2 (u2 (u2 (u2 iv 8 5 n4) 8 4 0) 8 3 (-1)) 1 8 n2) lv fa la) from hD).weaken (fun _ _ _ h => hFc _ h)
  have i_8_2 : 0 ≤ (iv 8 2).toInt ∧ (iv 8 2).toInt ≤ 200 := hI.1 8 2
  have : (0 : Int32).toInt = 0 := (by decide)
  have xr3_0 : Sk (fun j => ((fa 8 1) j).toInt) ((iv 8 2) : Int32).toInt (0 : Int32).toInt (n4 : Int32).toInt := xr3_0
  have xr3_1 : (((r3 : Int32).toInt = 1 ∧ (n4 : Int32).toInt < ((iv 8 2) : Int32).toInt) ∨ ((r3 : Int32).toInt = 0 ∧ ((iv 8 2) : Int32).toInt ≤ (n4 : Int32).toInt)) := xr3_1
  refine lv_istore_n (lv' := [(1, .int r3), (0, .ref (g 11 4))]) hx hb dX8_read_26 rfl hl (by decide) rfl (fun ls hl => ?_)
  refine lv_iconst (v := 0) hx hb dX8_read_27 (by decide) ?_
  refine lv_istore_n (lv' := [(2, .int 0), (1, .int r3), (0, .ref (g 11 4))]) hx hb dX8_read_28 rfl hl (by decide) rfl (fun ls hl => ?_)
  have lp272 : ∀ (nn272 : Nat) (x271_2 : Int32) (x271_1 : Int32) (w271_i_8_5 : Int32) (w271_i_8_4 : Int32) (w271_i_8_3 : Int32) (w271_i_1_8 : Int32) (w271_a_1_2 : Nat → Int32) (w271_a_1_3 : Nat → Int32) (w271_a_1_4 : Nat → Int32) (w271_a_1_5 : Nat → Int32), 0 ≤ x271_2.toInt ∧ x271_2.toInt ≤ 13 → 0 ≤ x271_1.toInt ∧ x271_1.toInt ≤ 1 → 0 ≤ w271_i_8_5.toInt ∧ w271_i_8_5.toInt ≤ 200 → 0 ≤ w271_i_8_4.toInt ∧ w271_i_8_4.toInt ≤ 5 → (-1) ≤ w271_i_8_3.toInt ∧ w271_i_8_3.toInt ≤ 200 → 0 ≤ w271_i_1_8.toInt ∧ w271_i_1_8.toInt ≤ 12 → (∀ j, inb (bA 1 2 j) (w271_a_1_2 j)) → (∀ j, inb (bA 1 3 j) (w271_a_1_3 j)) → (∀ j, inb (bA 1 4 j) (w271_a_1_4 j)) → (∀ j, inb (bA 1 5 j) (w271_a_1_5 j)) → ((((x271_1 : Int32).toInt = 1 ∧ (w271_i_1_8 : Int32).toInt = (x271_2 : Int32).toInt ∧ (w271_i_8_4 : Int32).toInt = 0 ∧ (w271_i_8_3 : Int32).toInt = -1 ∧ ∃ a : Int, Pf (fun j => ((fa 8 1) j).toInt) ((iv 8 2) : Int32).toInt (iv 1 7).toInt (fun i => (w271_a_1_2 (12 * ((iv 1 7).toInt).toNat + i)).toInt) (fun i => (w271_a_1_3 (12 * ((iv 1 7).toInt).toNat + i)).toInt) (fun i => (w271_a_1_4 (12 * ((iv 1 7).toInt).toNat + i)).toInt) (fun i j => (w271_a_1_5 (8 * (12 * ((iv 1 7).toInt).toNat + i) + j)).toInt) ((w271_i_1_8 : Int32).toInt).toNat a ∧ Sk (fun j => ((fa 8 1) j).toInt) ((iv 8 2) : Int32).toInt a (w271_i_8_5 : Int32).toInt ∧ (w271_i_8_5 : Int32).toInt < ((iv 8 2) : Int32).toInt) ∨ ((x271_1 : Int32).toInt = 0 ∧ ((w271_i_8_4 : Int32).toInt ≠ 0 ∨ (w271_i_8_3 : Int32).toInt = -1) ∧ Out (fun j => ((fa 8 1) j).toInt) (iv 8 2).toInt (iv 1 7).toInt (w271_i_8_4 : Int32).toInt (w271_i_8_3 : Int32).toInt ((w271_i_1_8 : Int32).toInt).toNat (fun i => (w271_a_1_2 (12 * ((iv 1 7).toInt).toNat + i)).toInt) (fun i => (w271_a_1_3 (12 * ((iv 1 7).toInt).toNat + i)).toInt) (fun i => (w271_a_1_4 (12 * ((iv 1 7).toInt).toNat + i)).toInt) (fun i j => (w271_a_1_5 (8 * (12 * ((iv 1 7).toInt).toNat + i) + j)).toInt)))) → (∀ j : Nat, (j : Int) < 12 * (iv 1 7).toInt → w271_a_1_2 j = (fa 1 2) j ∧ w271_a_1_3 j = (fa 1 3) j ∧ w271_a_1_4 j = (fa 1 4) j) → (∀ j : Nat, (j : Int) < 96 * (iv 1 7).toInt → w271_a_1_5 j = (fa 1 5) j) → (x271_2 : Int32).toInt ≤ 13 → 0 ≤ (x271_2 : Int32).toInt → 13 - x271_2.toInt < (nn272 : Int) → ∀ (H : Heap) (locs : List Loc), ∀ (ls : Array Slot), va_P (dC, dI) classes (WX h g ca (u2 (u2 (u2 (u2 iv 8 5 w271_i_8_5) 8 4 w271_i_8_4) 8 3 w271_i_8_3) 1 8 w271_i_1_8) lv (u2 (u2 (u2 (u2 fa 1 2 w271_a_1_2) 1 3 w271_a_1_3) 1 4 w271_a_1_4) 1 5 w271_a_1_5) la) H → va_D A (WX h g ca (u2 (u2 (u2 (u2 iv 8 5 w271_i_8_5) 8 4 w271_i_8_4) 8 3 w271_i_8_3) 1 8 w271_i_1_8) lv (u2 (u2 (u2 (u2 fa 1 2 w271_a_1_2) 1 3 w271_a_1_3) 1 4 w271_a_1_4) 1 5 w271_a_1_5) la) → va_S A s.heap H locs → lv_has ls 3 [(2, .int x271_2), (1, .int x271_1), (0, .ref (g 11 4))] → W p l e ({ frames := 8, cells := 0, slots := 0, locals := 179 } : Room) s m ([.ref (g 11 4)] : List Value).toArray below meth c H locs 0 0 (MQ below (va_Qi (fun r (u : SS) => ∃ (na_1_2 : Nat → Int32) (na_1_3 : Nat → Int32) (na_1_4 : Nat → Int32) (na_1_5 : Nat → Int32) (ni_1_8 : Int32) (ni_8_2 : Int32) (ni_8_3 : Int32) (ni_8_4 : Int32) (ni_8_5 : Int32), inb (bI 1 8) ni_1_8 ∧ inb (bI 8 2) ni_8_2 ∧ inb (bI 8 3) ni_8_3 ∧ inb (bI 8 4) ni_8_4 ∧ inb (bI 8 5) ni_8_5 ∧ (Out (fun j => ((fa 8 1) j).toInt) (iv 8 2).toInt (iv 1 7).toInt (ni_8_4).toInt (ni_8_3).toInt ((ni_1_8).toInt).toNat (fun i => (na_1_2 (12 * ((iv 1 7).toInt).toNat + i)).toInt) (fun i => (na_1_3 (12 * ((iv 1 7).toInt).toNat + i)).toInt) (fun i => (na_1_4 (12 * ((iv 1 7).toInt).toNat + i)).toInt) (fun i j => (na_1_5 (8 * (12 * ((iv 1 7).toInt).toNat + i) + j)).toInt)) ∧ (((ni_8_4).toInt ≠ 0 ∨ (ni_8_3).toInt = -1)) ∧ (r.toInt = (ni_8_4).toInt) ∧ ((ni_8_2).toInt = 0) ∧ (∀ j : Nat, (j : Int) < 12 * (iv 1 7).toInt → na_1_2 j = (fa 1 2) j ∧ na_1_3 j = (fa 1 3) j ∧ na_1_4 j = (fa 1 4) j) ∧ (∀ j : Nat, (j : Int) < 96 * (iv 1 7).toInt → na_1_5 j = (fa 1 5) j) ∧ (0 ≤ r.toInt ∧ r.toInt ≤ 5) ∧ u = ((u2 (u2 (u2 (u2 (u2 iv 1 8 ni_1_8) 8 2 ni_8_2) 8 3 ni_8_3) 8 4 ni_8_4) 8 5 ni_8_5), lv, (u2 (u2 (u2 (u2 fa 1 2 na_1_2) 1 3 na_1_3) 1 4 na_1_4) 1 5 na_1_5), la)) (bX (dC, dI) h g ca A) A) ([.ref (g 11 4)] : List Value).toArray s 0 0 A) (F0 m 29 ls []) := by
    intro nn272
    induction nn272 with
    | zero => intro x271_2 x271_1 w271_i_8_5 w271_i_8_4 w271_i_8_3 w271_i_1_8 w271_a_1_2 w271_a_1_3 w271_a_1_4 w271_a_1_5 hx271_2 hx271_1 hw271_i_8_5 hw271_i_8_4 hw271_i_8_3 hw271_i_1_8 hw271_a_1_2 hw271_a_1_3 hw271_a_1_4 hw271_a_1_5 hq272_0 hq272_1 hq272_2 hq272_3 hq272_4 hm272; exfalso; omega
    | succ nn272 ih272 =>
      intro x271_2 x271_1 w271_i_8_5 w271_i_8_4 w271_i_8_3 w271_i_1_8 w271_a_1_2 w271_a_1_3 w271_a_1_4 w271_a_1_5 hx271_2 hx271_1 hw271_i_8_5 hw271_i_8_4 hw271_i_8_3 hw271_i_1_8 hw271_a_1_2 hw271_a_1_3 hw271_a_1_4 hw271_a_1_5 hq272_0 hq272_1 hq272_2 hq272_3 hq272_4 hm272 H locs ls hP hD hS hl
      refine lv_iload_n hx hb dX8_read_29 rfl (lv_at hl 1 rfl) ?_
      refine lv_if_eq (tgt := 65) hx hb dX8_read_30 (by decide) (fun c273 => ?_) (fun c273 => ?_)
      · have fc273 := z_eq (rfl : (x271_1).toInt = _) (by decide : (0 : Int32).toInt = 0) c273
        refine lv_aload_n hx hb dX8_read_65 rfl (lv_at hl 2 rfl) ?_
        refine lv_iconst (v := 0) hx hb dX8_read_66 (by decide) ?_
        refine pX_8_2 (v := 0) hx hb ht hown hK hP hD hS m_230 dX8_read_67 (fun H locs hP hD hS => ?_)
        refine lv_aload_n hx hb dX8_read_70 rfl (lv_at hl 2 rfl) ?_
        refine gX_8_4 hx hb ht hown hK hP m_234 (v := w271_i_8_4) rfl dX8_read_71 ?_
        have hP9 : va_P (dC, dI) classes (WX h g ca (u2 (u2 (u2 (u2 (u2 iv 1 8 w271_i_1_8) 8 2 0) 8 3 w271_i_8_3) 8 4 w271_i_8_4) 8 5 w271_i_8_5) lv (u2 (u2 (u2 (u2 fa 1 2 w271_a_1_2) 1 3 w271_a_1_3) 1 4 w271_a_1_4) 1 5 w271_a_1_5) la) H := hP
        have hD9 : va_D A (WX h g ca (u2 (u2 (u2 (u2 (u2 iv 1 8 w271_i_1_8) 8 2 0) 8 3 w271_i_8_3) 8 4 w271_i_8_4) 8 5 w271_i_8_5) lv (u2 (u2 (u2 (u2 fa 1 2 w271_a_1_2) 1 3 w271_a_1_3) 1 4 w271_a_1_4) 1 5 w271_a_1_5) la) := hD
        exact W.iret (v := w271_i_8_4) hx hb hr (fun t ht9 hW => ⟨⟨w271_i_8_4, ((u2 (u2 (u2 (u2 (u2 iv 1 8 w271_i_1_8) 8 2 0) 8 3 w271_i_8_3) 8 4 w271_i_8_4) 8 5 w271_i_8_5), lv, (u2 (u2 (u2 (u2 fa 1 2 w271_a_1_2) 1 3 w271_a_1_3) 1 4 w271_a_1_4) 1 5 w271_a_1_5), la), rfl, ⟨w271_a_1_2, w271_a_1_3, w271_a_1_4, w271_a_1_5, w271_i_1_8, 0, w271_i_8_3, w271_i_8_4, w271_i_8_5, (show inb (0, 12) w271_i_1_8 from ⟨by omega, by omega⟩), (show inb (0, 200) 0 from ⟨by decide, by decide⟩), (show inb ((-1), 200) w271_i_8_3 from ⟨by omega, by omega⟩), (show inb (0, 5) w271_i_8_4 from ⟨by omega, by omega⟩), (show inb (0, 200) w271_i_8_5 from ⟨by omega, by omega⟩), (show Out (fun j => ((fa 8 1) j).toInt) (iv 8 2).toInt (iv 1 7).toInt (w271_i_8_4 : Int32).toInt (w271_i_8_3 : Int32).toInt ((w271_i_1_8 : Int32).toInt).toNat (fun i => (w271_a_1_2 (12 * ((iv 1 7).toInt).toNat + i)).toInt) (fun i => (w271_a_1_3 (12 * ((iv 1 7).toInt).toNat + i)).toInt) (fun i => (w271_a_1_4 (12 * ((iv 1 7).toInt).toNat + i)).toInt) (fun i j => (w271_a_1_5 (8 * (12 * ((iv 1 7).toInt).toNat + i) + j)).toInt) from (by
              rcases hq272_0 with ⟨i1, i2, -⟩ | ⟨i1, i2, i3⟩
              · exfalso; omega
              · exact i3)), (show ((w271_i_8_4 : Int32).toInt ≠ 0 ∨ (w271_i_8_3 : Int32).toInt = -1) from (by
              rcases hq272_0 with ⟨i1, i2, -⟩ | ⟨i1, i2, i3⟩
              · exfalso; omega
              · exact i2)), (show (w271_i_8_4 : Int32).toInt = (w271_i_8_4 : Int32).toInt from by omega), (show (0 : Int32).toInt = 0 from by omega), (show ∀ j : Nat, (j : Int) < 12 * (iv 1 7).toInt → w271_a_1_2 j = (fa 1 2) j ∧ w271_a_1_3 j = (fa 1 3) j ∧ w271_a_1_4 j = (fa 1 4) j from hq272_1), (show ∀ j : Nat, (j : Int) < 96 * (iv 1 7).toInt → w271_a_1_5 j = (fa 1 5) j from hq272_2), ⟨by omega, by omega⟩, rfl⟩, by rw [ht9]; exact hP9, hD9⟩, hS.F ht9⟩) hS.2.2 dX8_read_74
      · have fc273 := z_ne (rfl : (x271_1).toInt = _) (by decide : (0 : Int32).toInt = 0) c273
        refine lv_iload_n hx hb dX8_read_33 rfl (lv_at hl 0 rfl) ?_
        refine lv_bipush (v := 12) hx hb dX8_read_34 (by decide) ?_
        refine lv_icmp_gt (tgt := 65) hx hb dX8_read_36 (by decide) (fun c274 => ?_) (fun c274 => ?_)
        · have fc274 := z_lt (by decide : (12 : Int32).toInt = 12) (rfl : (x271_2).toInt = _) c274
          refine lv_aload_n hx hb dX8_read_65 rfl (lv_at hl 2 rfl) ?_
          refine lv_iconst (v := 0) hx hb dX8_read_66 (by decide) ?_
          refine pX_8_2 (v := 0) hx hb ht hown hK hP hD hS m_230 dX8_read_67 (fun H locs hP hD hS => ?_)
          refine lv_aload_n hx hb dX8_read_70 rfl (lv_at hl 2 rfl) ?_
          refine gX_8_4 hx hb ht hown hK hP m_234 (v := w271_i_8_4) rfl dX8_read_71 ?_
          have hP9 : va_P (dC, dI) classes (WX h g ca (u2 (u2 (u2 (u2 (u2 iv 1 8 w271_i_1_8) 8 2 0) 8 3 w271_i_8_3) 8 4 w271_i_8_4) 8 5 w271_i_8_5) lv (u2 (u2 (u2 (u2 fa 1 2 w271_a_1_2) 1 3 w271_a_1_3) 1 4 w271_a_1_4) 1 5 w271_a_1_5) la) H := hP
          have hD9 : va_D A (WX h g ca (u2 (u2 (u2 (u2 (u2 iv 1 8 w271_i_1_8) 8 2 0) 8 3 w271_i_8_3) 8 4 w271_i_8_4) 8 5 w271_i_8_5) lv (u2 (u2 (u2 (u2 fa 1 2 w271_a_1_2) 1 3 w271_a_1_3) 1 4 w271_a_1_4) 1 5 w271_a_1_5) la) := hD
          exact W.iret (v := w271_i_8_4) hx hb hr (fun t ht9 hW => ⟨⟨w271_i_8_4, ((u2 (u2 (u2 (u2 (u2 iv 1 8 w271_i_1_8) 8 2 0) 8 3 w271_i_8_3) 8 4 w271_i_8_4) 8 5 w271_i_8_5), lv, (u2 (u2 (u2 (u2 fa 1 2 w271_a_1_2) 1 3 w271_a_1_3) 1 4 w271_a_1_4) 1 5 w271_a_1_5), la), rfl, ⟨w271_a_1_2, w271_a_1_3, w271_a_1_4, w271_a_1_5, w271_i_1_8, 0, w271_i_8_3, w271_i_8_4, w271_i_8_5, (show inb (0, 12) w271_i_1_8 from ⟨by omega, by omega⟩), (show inb (0, 200) 0 from ⟨by decide, by decide⟩), (show inb ((-1), 200) w271_i_8_3 from ⟨by omega, by omega⟩), (show inb (0, 5) w271_i_8_4 from ⟨by omega, by omega⟩), (show inb (0, 200) w271_i_8_5 from ⟨by omega, by omega⟩), (show Out (fun j => ((fa 8 1) j).toInt) (iv 8 2).toInt (iv 1 7).toInt (w271_i_8_4 : Int32).toInt (w271_i_8_3 : Int32).toInt ((w271_i_1_8 : Int32).toInt).toNat (fun i => (w271_a_1_2 (12 * ((iv 1 7).toInt).toNat + i)).toInt) (fun i => (w271_a_1_3 (12 * ((iv 1 7).toInt).toNat + i)).toInt) (fun i => (w271_a_1_4 (12 * ((iv 1 7).toInt).toNat + i)).toInt) (fun i j => (w271_a_1_5 (8 * (12 * ((iv 1 7).toInt).toNat + i) + j)).toInt) from (by
                rcases hq272_0 with ⟨i1, i2, -⟩ | ⟨i1, i2, i3⟩
                · exfalso; omega
                · exact i3)), (show ((w271_i_8_4 : Int32).toInt ≠ 0 ∨ (w271_i_8_3 : Int32).toInt = -1) from (by
                rcases hq272_0 with ⟨i1, i2, -⟩ | ⟨i1, i2, i3⟩
                · exfalso; omega
                · exact i2)), (show (w271_i_8_4 : Int32).toInt = (w271_i_8_4 : Int32).toInt from by omega), (show (0 : Int32).toInt = 0 from by omega), (show ∀ j : Nat, (j : Int) < 12 * (iv 1 7).toInt → w271_a_1_2 j = (fa 1 2) j ∧ w271_a_1_3 j = (fa 1 3) j ∧ w271_a_1_4 j = (fa 1 4) j from hq272_1), (show ∀ j : Nat, (j : Int) < 96 * (iv 1 7).toInt → w271_a_1_5 j = (fa 1 5) j from hq272_2), ⟨by omega, by omega⟩, rfl⟩, by rw [ht9]; exact hP9, hD9⟩, hS.F ht9⟩) hS.2.2 dX8_read_74
        · have fc274 := z_nlt (by decide : (12 : Int32).toInt = 12) (rfl : (x271_2).toInt = _) c274
          refine lv_aload_n hx hb dX8_read_39 rfl (lv_at hl 2 rfl) ?_
          have hs9 : Sk (fun j => (fa 8 1 j).toInt) (iv 8 2).toInt (w271_i_8_5 : Int32).toInt (w271_i_8_5 : Int32).toInt := by
            rcases hq272_0 with ⟨i1, i2, i3, i4, a, i5, i6, i7⟩ | ⟨i1, -⟩
            · exact Sk_id i6
            · exfalso; omega
          have i_1_7 : 0 ≤ (iv 1 7).toInt ∧ (iv 1 7).toInt ≤ 8 := hI.1 1 7
          have hFc := free_all hD hS hA
          refine va_calli (va_runV (As := []) (rest := []) ⟨hx, hb, hml, hown, ht⟩ (c_X8_readClause_r l dC dI H.size ak av h g ca (u2 (u2 (u2 (u2 iv 8 5 w271_i_8_5) 8 4 w271_i_8_4) 8 3 w271_i_8_3) 1 8 w271_i_1_8) lv (u2 (u2 (u2 (u2 fa 1 2 w271_a_1_2) 1 3 w271_a_1_3) 1 4 w271_a_1_4) 1 5 w271_a_1_5) la (IX_a (c := 1) (k := 5) (IX_a (c := 1) (k := 4) (IX_a (c := 1) (k := 3) (IX_a (c := 1) (k := 2) (IX_i (c := 1) (k := 8) (IX_i (c := 8) (k := 3) (IX_i (c := 8) (k := 4) (IX_i (c := 8) (k := 5) hI (show inb (0, 200) w271_i_8_5 from ⟨by omega, by omega⟩)) (show inb (0, 5) w271_i_8_4 from ⟨by omega, by omega⟩)) (show inb ((-1), 200) w271_i_8_3 from ⟨by omega, by omega⟩)) (show inb (0, 12) w271_i_1_8 from ⟨by omega, by omega⟩)) hw271_a_1_2) hw271_a_1_3) hw271_a_1_4) hw271_a_1_5) (show 0 ≤ ((iv 1 7) : Int32).toInt ∧ ((iv 1 7) : Int32).toInt ≤ 7 from ⟨by omega, by omega⟩) hs9) (kV 0 ht m_692 m_694 m_17 m_82 m_695 rfl rfl hd_X8_readClause_v ⟨Nat.le_of_ble_eq_true rfl, Nat.le_of_ble_eq_true rfl⟩) (vWZ hP hK hD ((hZ.kept hS.2.1).narrow (free_all hD hS hA)) (rX_8 hK hP)) rfl rfl hl.1 rfl (lv_room (Nat.le_of_ble_eq_true rfl)) dX8_read_40 ⟨Nat.le_of_ble_eq_true rfl, Nat.le_of_ble_eq_true rfl⟩) hS (fun q _ h => hFc q h) hFc (fun r275 u t H1 locs ht9 hvm hr275 hB hz1 hk1 hS => ?_)
          obtain ⟨n276, n277, n278, n279, n280, n281, n282, n283, hn280, hn281, hn282, hn283, xr275_0, xr275_1, xr275_2, hr275, rfl⟩ := hr275
          have hn276 : ∀ j, inb (bA 1 2 j) (n276 j) := fun j => full_i _
          have hn277 : ∀ j, inb (bA 1 3 j) (n277 j) := fun j => full_i _
          have hn278 : ∀ j, inb (bA 1 4 j) (n278 j) := fun j => full_i _
          have hn279 : ∀ j, inb (bA 1 5 j) (n279 j) := fun j => full_i _
          have hn280 : 0 ≤ n280.toInt ∧ n280.toInt ≤ 12 := hn280
          have hn281 : (-1) ≤ n281.toInt ∧ n281.toInt ≤ 200 := hn281
          have hn282 : 0 ≤ n282.toInt ∧ n282.toInt ≤ 5 := hn282
          have hn283 : 0 ≤ n283.toInt ∧ n283.toInt ≤ 200 := hn283
          obtain ⟨hP, hD⟩ := hB
          rw [ht9] at hP
          generalize H1 = H at hP hS ⊢
          have hP : va_P (dC, dI) classes (WX h g ca (u2 (u2 (u2 (u2 iv 8 5 n283) 8 4 n282) 8 3 n281) 1 8 n280) lv (u2 (u2 (u2 (u2 fa 1 2 n276) 1 3 n277) 1 4 n278) 1 5 n279) la) H := hP
          have hD : va_D A (WX h g ca (u2 (u2 (u2 (u2 iv 8 5 n283) 8 4 n282) 8 3 n281) 1 8 n280) lv (u2 (u2 (u2 (u2 fa 1 2 n276) 1 3 n277) 1 4 n278) 1 5 n279) la) := (show va_D _ (WX h g ca (u2 (u2 (u2 (u2 iv 8 5 n283) 8 4 n282) 8 3 n281) 1 8 n280) lv (u2 (u2 (u2 (u2 fa 1 2 n276) 1 3 n277) 1 4 n278) 1 5 n279) la) from hD).weaken (fun _ _ _ h => hFc _ h)
          have xr275_0 : (((r275 : Int32).toInt = 0 ∧ 1 ≤ (n282 : Int32).toInt ∧ (n280 : Int32).toInt = (w271_i_1_8 : Int32).toInt ∧ ∃ (b kd v1 v2 : Int) (wd : Nat → Int), ClR (fun j => ((fa 8 1) j).toInt) ((iv 8 2) : Int32).toInt ((iv 1 7) : Int32).toInt (w271_i_8_5 : Int32).toInt (w271_i_1_8 : Int32).toInt (n282 : Int32).toInt (n281 : Int32).toInt b kd v1 v2 wd) ∨ ((r275 : Int32).toInt = 1 ∧ (n282 : Int32).toInt = (w271_i_8_4 : Int32).toInt ∧ (n281 : Int32).toInt = (w271_i_8_3 : Int32).toInt ∧ (n280 : Int32).toInt = (w271_i_1_8 : Int32).toInt + 1 ∧ (w271_i_1_8 : Int32).toInt ≤ 11 ∧ ClR (fun j => ((fa 8 1) j).toInt) ((iv 8 2) : Int32).toInt ((iv 1 7) : Int32).toInt (w271_i_8_5 : Int32).toInt (w271_i_1_8 : Int32).toInt 0 0 (n283 : Int32).toInt (n276 (12 * (((iv 1 7) : Int32).toInt).toNat + ((w271_i_1_8 : Int32).toInt).toNat)).toInt (n277 (12 * (((iv 1 7) : Int32).toInt).toNat + ((w271_i_1_8 : Int32).toInt).toNat)).toInt (n278 (12 * (((iv 1 7) : Int32).toInt).toNat + ((w271_i_1_8 : Int32).toInt).toNat)).toInt (fun j => (n279 ((8 * (12 * (((iv 1 7) : Int32).toInt).toNat + ((w271_i_1_8 : Int32).toInt).toNat)) + j)).toInt))) := xr275_0
          have xr275_1 : ∀ j : Nat, (j : Int) < 12 * ((iv 1 7) : Int32).toInt + (w271_i_1_8 : Int32).toInt → n276 j = w271_a_1_2 j ∧ n277 j = w271_a_1_3 j ∧ n278 j = w271_a_1_4 j := xr275_1
          have xr275_2 : ∀ j : Nat, (j : Int) < (8 * (12 * ((iv 1 7) : Int32).toInt + (w271_i_1_8 : Int32).toInt)) → n279 j = w271_a_1_5 j := xr275_2
          refine lv_if_eq (tgt := 57) hx hb dX8_read_43 (by decide) (fun c284 => ?_) (fun c284 => ?_)
          · have fc284 := z_eq (rfl : (r275).toInt = _) (by decide : (0 : Int32).toInt = 0) c284
            refine lv_iconst (v := 0) hx hb dX8_read_57 (by decide) ?_
            refine lv_istore_n (lv' := [(1, .int 0), (2, .int x271_2), (0, .ref (g 11 4))]) hx hb dX8_read_58 rfl hl (by decide) rfl (fun ls hl => ?_)
            obtain ⟨v285, ev285⟩ : ∃ y : Int32, y = x271_2 + 1 := ⟨_, rfl⟩
            have tv285 := z_add ev285 rfl (by decide : (1 : Int32).toInt = 1) (by omega) (by omega)
            refine lv_iinc (v := v285) (lv' := [(2, .int v285), (1, .int 0), (0, .ref (g 11 4))]) hx hb dX8_read_59 hl (k := 1) rfl (by rw [ev285]; rfl) (by decide) rfl (fun ls hl => ?_)
            refine lv_goto (tgt := 29) hx hb dX8_read_62 (by decide) ?_
            exact ih272 v285 0 n283 n282 n281 n280 n276 n277 n278 n279 ⟨by omega, by omega⟩ ⟨by decide, by decide⟩ ⟨by omega, by omega⟩ ⟨by omega, by omega⟩ ⟨by omega, by omega⟩ ⟨by omega, by omega⟩ hn276 hn277 hn278 hn279 (show (((0 : Int32).toInt = 1 ∧ (n280 : Int32).toInt = (v285 : Int32).toInt ∧ (n282 : Int32).toInt = 0 ∧ (n281 : Int32).toInt = -1 ∧ ∃ a : Int, Pf (fun j => ((fa 8 1) j).toInt) ((iv 8 2) : Int32).toInt (iv 1 7).toInt (fun i => (n276 (12 * ((iv 1 7).toInt).toNat + i)).toInt) (fun i => (n277 (12 * ((iv 1 7).toInt).toNat + i)).toInt) (fun i => (n278 (12 * ((iv 1 7).toInt).toNat + i)).toInt) (fun i j => (n279 (8 * (12 * ((iv 1 7).toInt).toNat + i) + j)).toInt) ((n280 : Int32).toInt).toNat a ∧ Sk (fun j => ((fa 8 1) j).toInt) ((iv 8 2) : Int32).toInt a (n283 : Int32).toInt ∧ (n283 : Int32).toInt < ((iv 8 2) : Int32).toInt) ∨ ((0 : Int32).toInt = 0 ∧ ((n282 : Int32).toInt ≠ 0 ∨ (n281 : Int32).toInt = -1) ∧ Out (fun j => ((fa 8 1) j).toInt) (iv 8 2).toInt (iv 1 7).toInt (n282 : Int32).toInt (n281 : Int32).toInt ((n280 : Int32).toInt).toNat (fun i => (n276 (12 * ((iv 1 7).toInt).toNat + i)).toInt) (fun i => (n277 (12 * ((iv 1 7).toInt).toNat + i)).toInt) (fun i => (n278 (12 * ((iv 1 7).toInt).toNat + i)).toInt) (fun i j => (n279 (8 * (12 * ((iv 1 7).toInt).toNat + i) + j)).toInt))) from (by
                  rcases hq272_0 with ⟨i1, i2, i3, i4, a, i5, i6, i7⟩ | ⟨i1, -⟩
                  · have hc9 : ((((w271_i_1_8 : Int32).toInt).toNat : Nat) : Int) = (w271_i_1_8 : Int32).toInt := Int.toNat_of_nonneg (by omega)
                    have hp9 := (Pf_cg _ _ (fun i hi => ⟨congrArg Int32.toInt (xr275_1 (12 * ((iv 1 7).toInt).toNat + i) (by omega)).1.symm, congrArg Int32.toInt (xr275_1 (12 * ((iv 1 7).toInt).toNat + i) (by omega)).2.1.symm, congrArg Int32.toInt (xr275_1 (12 * ((iv 1 7).toInt).toNat + i) (by omega)).2.2.symm, fun j hj => congrArg Int32.toInt (xr275_2 (8 * (12 * ((iv 1 7).toInt).toNat + i) + j) (by omega)).symm⟩) i5)
                    rcases xr275_0 with ⟨c1, c2, c3, b, kd, v1, v2, wd, c4⟩ | ⟨c1, -⟩
                    · rw [show ((n280 : Int32).toInt).toNat = ((w271_i_1_8 : Int32).toInt).toNat from by omega]
                      exact Or.inr ⟨by omega, Or.inl (by omega), a, _, hp9, i6, Or.inr ⟨i7, by omega, b, kd, v1, v2, wd, by rw [hc9]; exact c4⟩⟩
                    · exfalso; omega
                  · exfalso; omega)) (show ∀ j : Nat, (j : Int) < 12 * (iv 1 7).toInt → n276 j = (fa 1 2) j ∧ n277 j = (fa 1 3) j ∧ n278 j = (fa 1 4) j from (fun j hj => ⟨(xr275_1 j (by omega)).1.trans (hq272_1 j hj).1, (xr275_1 j (by omega)).2.1.trans (hq272_1 j hj).2.1, (xr275_1 j (by omega)).2.2.trans (hq272_1 j hj).2.2⟩)) (show ∀ j : Nat, (j : Int) < 96 * (iv 1 7).toInt → n279 j = (fa 1 5) j from (fun j hj => (xr275_2 j (by omega)).trans (hq272_2 j hj))) (show (v285 : Int32).toInt ≤ 13 from by omega) (show 0 ≤ (v285 : Int32).toInt from by omega) (by omega) _ _ ls hP hD hS (lv_sub hl [0, 1, 2] rfl)
          · have fc284 := z_ne (rfl : (r275).toInt = _) (by decide : (0 : Int32).toInt = 0) c284
            refine lv_aload_n hx hb dX8_read_46 rfl (lv_at hl 2 rfl) ?_
            have hFc := free_all hD hS hA
            refine va_calli (va_runV (As := []) (rest := []) ⟨hx, hb, hml, hown, ht⟩ (c_X8_skipBlanks_r l dC dI H.size h g ca (u2 (u2 (u2 (u2 iv 8 5 n283) 8 4 n282) 8 3 n281) 1 8 n280) lv (u2 (u2 (u2 (u2 fa 1 2 n276) 1 3 n277) 1 4 n278) 1 5 n279) la (IX_a (c := 1) (k := 5) (IX_a (c := 1) (k := 4) (IX_a (c := 1) (k := 3) (IX_a (c := 1) (k := 2) (IX_i (c := 1) (k := 8) (IX_i (c := 8) (k := 3) (IX_i (c := 8) (k := 4) (IX_i (c := 8) (k := 5) hI (show inb (0, 200) n283 from ⟨by omega, by omega⟩)) (show inb (0, 5) n282 from ⟨by omega, by omega⟩)) (show inb ((-1), 200) n281 from ⟨by omega, by omega⟩)) (show inb (0, 12) n280 from ⟨by omega, by omega⟩)) hn276) hn277) hn278) hn279)) (kV 0 ht m_688 m_690 m_16 m_82 m_691 rfl rfl hd_X8_skipBlanks_v ⟨Nat.le_of_ble_eq_true rfl, Nat.le_of_ble_eq_true rfl⟩) (vW hP hK hD (rX_8 hK hP)) rfl rfl hl.1 rfl (lv_room (Nat.le_of_ble_eq_true rfl)) dX8_read_47 ⟨Nat.le_of_ble_eq_true rfl, Nat.le_of_ble_eq_true rfl⟩) hS (fun q _ h => hFc q h) hFc (fun r286 u t H1 locs ht9 hvm hr286 hB hz1 hk1 hS => ?_)
            obtain ⟨n287, hn287, xr286_0, xr286_1, hr286, rfl⟩ := hr286
            have hn287 : 0 ≤ n287.toInt ∧ n287.toInt ≤ 200 := hn287
            obtain ⟨hP, hD⟩ := hB
            rw [ht9] at hP
            generalize H1 = H at hP hS ⊢
            have hP : va_P (dC, dI) classes (WX h g ca (u2 (u2 (u2 (u2 iv 8 5 n287) 8 4 n282) 8 3 n281) 1 8 n280) lv (u2 (u2 (u2 (u2 fa 1 2 n276) 1 3 n277) 1 4 n278) 1 5 n279) la) H := hP
            have hD : va_D A (WX h g ca (u2 (u2 (u2 (u2 iv 8 5 n287) 8 4 n282) 8 3 n281) 1 8 n280) lv (u2 (u2 (u2 (u2 fa 1 2 n276) 1 3 n277) 1 4 n278) 1 5 n279) la) := (show va_D _ (WX h g ca (u2 (u2 (u2 (u2 iv 8 5 n287) 8 4 n282) 8 3 n281) 1 8 n280) lv (u2 (u2 (u2 (u2 fa 1 2 n276) 1 3 n277) 1 4 n278) 1 5 n279) la) from hD).weaken (fun _ _ _ h => hFc _ h)
            have xr286_0 : Sk (fun j => ((fa 8 1) j).toInt) ((iv 8 2) : Int32).toInt (n283 : Int32).toInt (n287 : Int32).toInt := xr286_0
            have xr286_1 : (((r286 : Int32).toInt = 1 ∧ (n287 : Int32).toInt < ((iv 8 2) : Int32).toInt) ∨ ((r286 : Int32).toInt = 0 ∧ ((iv 8 2) : Int32).toInt ≤ (n287 : Int32).toInt)) := xr286_1
            refine lv_if_eq (tgt := 57) hx hb dX8_read_50 (by decide) (fun c288 => ?_) (fun c288 => ?_)
            · have fc288 := z_eq (rfl : (r286).toInt = _) (by decide : (0 : Int32).toInt = 0) c288
              refine lv_iconst (v := 0) hx hb dX8_read_57 (by decide) ?_
              refine lv_istore_n (lv' := [(1, .int 0), (2, .int x271_2), (0, .ref (g 11 4))]) hx hb dX8_read_58 rfl hl (by decide) rfl (fun ls hl => ?_)
              obtain ⟨v289, ev289⟩ : ∃ y : Int32, y = x271_2 + 1 := ⟨_, rfl⟩
              have tv289 := z_add ev289 rfl (by decide : (1 : Int32).toInt = 1) (by omega) (by omega)
              refine lv_iinc (v := v289) (lv' := [(2, .int v289), (1, .int 0), (0, .ref (g 11 4))]) hx hb dX8_read_59 hl (k := 1) rfl (by rw [ev289]; rfl) (by decide) rfl (fun ls hl => ?_)
              refine lv_goto (tgt := 29) hx hb dX8_read_62 (by decide) ?_
              exact ih272 v289 0 n287 n282 n281 n280 n276 n277 n278 n279 ⟨by omega, by omega⟩ ⟨by decide, by decide⟩ ⟨by omega, by omega⟩ ⟨by omega, by omega⟩ ⟨by omega, by omega⟩ ⟨by omega, by omega⟩ hn276 hn277 hn278 hn279 (show (((0 : Int32).toInt = 1 ∧ (n280 : Int32).toInt = (v289 : Int32).toInt ∧ (n282 : Int32).toInt = 0 ∧ (n281 : Int32).toInt = -1 ∧ ∃ a : Int, Pf (fun j => ((fa 8 1) j).toInt) ((iv 8 2) : Int32).toInt (iv 1 7).toInt (fun i => (n276 (12 * ((iv 1 7).toInt).toNat + i)).toInt) (fun i => (n277 (12 * ((iv 1 7).toInt).toNat + i)).toInt) (fun i => (n278 (12 * ((iv 1 7).toInt).toNat + i)).toInt) (fun i j => (n279 (8 * (12 * ((iv 1 7).toInt).toNat + i) + j)).toInt) ((n280 : Int32).toInt).toNat a ∧ Sk (fun j => ((fa 8 1) j).toInt) ((iv 8 2) : Int32).toInt a (n287 : Int32).toInt ∧ (n287 : Int32).toInt < ((iv 8 2) : Int32).toInt) ∨ ((0 : Int32).toInt = 0 ∧ ((n282 : Int32).toInt ≠ 0 ∨ (n281 : Int32).toInt = -1) ∧ Out (fun j => ((fa 8 1) j).toInt) (iv 8 2).toInt (iv 1 7).toInt (n282 : Int32).toInt (n281 : Int32).toInt ((n280 : Int32).toInt).toNat (fun i => (n276 (12 * ((iv 1 7).toInt).toNat + i)).toInt) (fun i => (n277 (12 * ((iv 1 7).toInt).toNat + i)).toInt) (fun i => (n278 (12 * ((iv 1 7).toInt).toNat + i)).toInt) (fun i j => (n279 (8 * (12 * ((iv 1 7).toInt).toNat + i) + j)).toInt))) from (by
                    rcases hq272_0 with ⟨i1, i2, i3, i4, a, i5, i6, i7⟩ | ⟨i1, -⟩
                    · have hc9 : ((((w271_i_1_8 : Int32).toInt).toNat : Nat) : Int) = (w271_i_1_8 : Int32).toInt := Int.toNat_of_nonneg (by omega)
                      have hp9 := (Pf_cg _ _ (fun i hi => ⟨congrArg Int32.toInt (xr275_1 (12 * ((iv 1 7).toInt).toNat + i) (by omega)).1.symm, congrArg Int32.toInt (xr275_1 (12 * ((iv 1 7).toInt).toNat + i) (by omega)).2.1.symm, congrArg Int32.toInt (xr275_1 (12 * ((iv 1 7).toInt).toNat + i) (by omega)).2.2.symm, fun j hj => congrArg Int32.toInt (xr275_2 (8 * (12 * ((iv 1 7).toInt).toNat + i) + j) (by omega)).symm⟩) i5)
                      rcases xr275_0 with ⟨c1, -⟩ | ⟨c1, c2, c3, c4, c5, c6⟩
                      · exfalso; omega
                      · rw [← hc9] at c6
                        have hn9 := Pf_S hp9 i6 i7 c6
                        rw [show ((n280 : Int32).toInt).toNat = ((w271_i_1_8 : Int32).toInt).toNat + 1 from by omega]
                        rcases xr286_1 with ⟨q1, q2⟩ | ⟨q1, q2⟩
                        · exfalso; omega
                        · exact Or.inr ⟨by omega, Or.inr (by omega), _, _, hn9, xr286_0, Or.inl ⟨by omega, by omega⟩⟩
                    · exfalso; omega)) (show ∀ j : Nat, (j : Int) < 12 * (iv 1 7).toInt → n276 j = (fa 1 2) j ∧ n277 j = (fa 1 3) j ∧ n278 j = (fa 1 4) j from (fun j hj => ⟨(xr275_1 j (by omega)).1.trans (hq272_1 j hj).1, (xr275_1 j (by omega)).2.1.trans (hq272_1 j hj).2.1, (xr275_1 j (by omega)).2.2.trans (hq272_1 j hj).2.2⟩)) (show ∀ j : Nat, (j : Int) < 96 * (iv 1 7).toInt → n279 j = (fa 1 5) j from (fun j hj => (xr275_2 j (by omega)).trans (hq272_2 j hj))) (show (v289 : Int32).toInt ≤ 13 from by omega) (show 0 ≤ (v289 : Int32).toInt from by omega) (by omega) _ _ ls hP hD hS (lv_sub hl [0, 1, 2] rfl)
            · have fc288 := z_ne (rfl : (r286).toInt = _) (by decide : (0 : Int32).toInt = 0) c288
              refine lv_iconst (v := 1) hx hb dX8_read_53 (by decide) ?_
              refine lv_goto (tgt := 58) hx hb dX8_read_54 (by decide) ?_
              refine lv_istore_n (lv' := [(1, .int 1), (2, .int x271_2), (0, .ref (g 11 4))]) hx hb dX8_read_58 rfl hl (by decide) rfl (fun ls hl => ?_)
              obtain ⟨v290, ev290⟩ : ∃ y : Int32, y = x271_2 + 1 := ⟨_, rfl⟩
              have tv290 := z_add ev290 rfl (by decide : (1 : Int32).toInt = 1) (by omega) (by omega)
              refine lv_iinc (v := v290) (lv' := [(2, .int v290), (1, .int 1), (0, .ref (g 11 4))]) hx hb dX8_read_59 hl (k := 1) rfl (by rw [ev290]; rfl) (by decide) rfl (fun ls hl => ?_)
              refine lv_goto (tgt := 29) hx hb dX8_read_62 (by decide) ?_
              have : (1 : Int32).toInt = 1 := (by decide)
              exact ih272 v290 1 n287 n282 n281 n280 n276 n277 n278 n279 ⟨by omega, by omega⟩ ⟨by decide, by decide⟩ ⟨by omega, by omega⟩ ⟨by omega, by omega⟩ ⟨by omega, by omega⟩ ⟨by omega, by omega⟩ hn276 hn277 hn278 hn279 (show (((1 : Int32).toInt = 1 ∧ (n280 : Int32).toInt = (v290 : Int32).toInt ∧ (n282 : Int32).toInt = 0 ∧ (n281 : Int32).toInt = -1 ∧ ∃ a : Int, Pf (fun j => ((fa 8 1) j).toInt) ((iv 8 2) : Int32).toInt (iv 1 7).toInt (fun i => (n276 (12 * ((iv 1 7).toInt).toNat + i)).toInt) (fun i => (n277 (12 * ((iv 1 7).toInt).toNat + i)).toInt) (fun i => (n278 (12 * ((iv 1 7).toInt).toNat + i)).toInt) (fun i j => (n279 (8 * (12 * ((iv 1 7).toInt).toNat + i) + j)).toInt) ((n280 : Int32).toInt).toNat a ∧ Sk (fun j => ((fa 8 1) j).toInt) ((iv 8 2) : Int32).toInt a (n287 : Int32).toInt ∧ (n287 : Int32).toInt < ((iv 8 2) : Int32).toInt) ∨ ((1 : Int32).toInt = 0 ∧ ((n282 : Int32).toInt ≠ 0 ∨ (n281 : Int32).toInt = -1) ∧ Out (fun j => ((fa 8 1) j).toInt) (iv 8 2).toInt (iv 1 7).toInt (n282 : Int32).toInt (n281 : Int32).toInt ((n280 : Int32).toInt).toNat (fun i => (n276 (12 * ((iv 1 7).toInt).toNat + i)).toInt) (fun i => (n277 (12 * ((iv 1 7).toInt).toNat + i)).toInt) (fun i => (n278 (12 * ((iv 1 7).toInt).toNat + i)).toInt) (fun i j => (n279 (8 * (12 * ((iv 1 7).toInt).toNat + i) + j)).toInt))) from (by
                    rcases hq272_0 with ⟨i1, i2, i3, i4, a, i5, i6, i7⟩ | ⟨i1, -⟩
                    · have hc9 : ((((w271_i_1_8 : Int32).toInt).toNat : Nat) : Int) = (w271_i_1_8 : Int32).toInt := Int.toNat_of_nonneg (by omega)
                      have hp9 := (Pf_cg _ _ (fun i hi => ⟨congrArg Int32.toInt (xr275_1 (12 * ((iv 1 7).toInt).toNat + i) (by omega)).1.symm, congrArg Int32.toInt (xr275_1 (12 * ((iv 1 7).toInt).toNat + i) (by omega)).2.1.symm, congrArg Int32.toInt (xr275_1 (12 * ((iv 1 7).toInt).toNat + i) (by omega)).2.2.symm, fun j hj => congrArg Int32.toInt (xr275_2 (8 * (12 * ((iv 1 7).toInt).toNat + i) + j) (by omega)).symm⟩) i5)
                      rcases xr275_0 with ⟨c1, -⟩ | ⟨c1, c2, c3, c4, c5, c6⟩
                      · exfalso; omega
                      · rw [← hc9] at c6
                        have hn9 := Pf_S hp9 i6 i7 c6
                        rw [show ((n280 : Int32).toInt).toNat = ((w271_i_1_8 : Int32).toInt).toNat + 1 from by omega]
                        rcases xr286_1 with ⟨q1, q2⟩ | ⟨q1, q2⟩
                        · exact Or.inl ⟨by omega, by omega, by omega, by omega, _, hn9, xr286_0, by omega⟩
                        · exfalso; omega
                    · exfalso; omega)) (show ∀ j : Nat, (j : Int) < 12 * (iv 1 7).toInt → n276 j = (fa 1 2) j ∧ n277 j = (fa 1 3) j ∧ n278 j = (fa 1 4) j from (fun j hj => ⟨(xr275_1 j (by omega)).1.trans (hq272_1 j hj).1, (xr275_1 j (by omega)).2.1.trans (hq272_1 j hj).2.1, (xr275_1 j (by omega)).2.2.trans (hq272_1 j hj).2.2⟩)) (show ∀ j : Nat, (j : Int) < 96 * (iv 1 7).toInt → n279 j = (fa 1 5) j from (fun j hj => (xr275_2 j (by omega)).trans (hq272_2 j hj))) (show (v290 : Int32).toInt ≤ 13 from by omega) (show 0 ≤ (v290 : Int32).toInt from by omega) (by omega) _ _ ls hP hD hS (lv_sub hl [0, 1, 2] rfl)
  have : ((-1) : Int32).toInt = (-1) := (by decide)
  exact lp272 14 0 r3 n4 0 (-1) n2 (fa 1 2) (fa 1 3) (fa 1 4) (fa 1 5) ⟨by decide, by decide⟩ ⟨by omega, by omega⟩ ⟨by omega, by omega⟩ ⟨by decide, by decide⟩ ⟨by decide, by decide⟩ ⟨by omega, by omega⟩ (hI.2 1 2) (hI.2 1 3) (hI.2 1 4) (hI.2 1 5) (show (((r3 : Int32).toInt = 1 ∧ (n2 : Int32).toInt = (0 : Int32).toInt ∧ (0 : Int32).toInt = 0 ∧ ((-1) : Int32).toInt = -1 ∧ ∃ a : Int, Pf (fun j => ((fa 8 1) j).toInt) ((iv 8 2) : Int32).toInt (iv 1 7).toInt (fun i => ((fa 1 2) (12 * ((iv 1 7).toInt).toNat + i)).toInt) (fun i => ((fa 1 3) (12 * ((iv 1 7).toInt).toNat + i)).toInt) (fun i => ((fa 1 4) (12 * ((iv 1 7).toInt).toNat + i)).toInt) (fun i j => ((fa 1 5) (8 * (12 * ((iv 1 7).toInt).toNat + i) + j)).toInt) ((n2 : Int32).toInt).toNat a ∧ Sk (fun j => ((fa 8 1) j).toInt) ((iv 8 2) : Int32).toInt a (n4 : Int32).toInt ∧ (n4 : Int32).toInt < ((iv 8 2) : Int32).toInt) ∨ ((r3 : Int32).toInt = 0 ∧ ((0 : Int32).toInt ≠ 0 ∨ ((-1) : Int32).toInt = -1) ∧ Out (fun j => ((fa 8 1) j).toInt) (iv 8 2).toInt (iv 1 7).toInt (0 : Int32).toInt ((-1) : Int32).toInt ((n2 : Int32).toInt).toNat (fun i => ((fa 1 2) (12 * ((iv 1 7).toInt).toNat + i)).toInt) (fun i => ((fa 1 3) (12 * ((iv 1 7).toInt).toNat + i)).toInt) (fun i => ((fa 1 4) (12 * ((iv 1 7).toInt).toNat + i)).toInt) (fun i j => ((fa 1 5) (8 * (12 * ((iv 1 7).toInt).toNat + i) + j)).toInt))) from (by
        have h0 : (0 : Int32).toInt = 0 := by decide
        have hc9 : ((n2 : Int32).toInt).toNat = 0 := by omega
        have hk9 := xr3_0
        rw [h0] at hk9
        rw [hc9]
        rcases xr3_1 with ⟨q1, q2⟩ | ⟨q1, q2⟩
        · exact Or.inl ⟨by omega, by omega, by omega, by omega, 0, rfl, hk9, by omega⟩
        · exact Or.inr ⟨by omega, Or.inr (by omega), 0, _, rfl, hk9, Or.inl ⟨by omega, by omega⟩⟩)) (show ∀ j : Nat, (j : Int) < 12 * (iv 1 7).toInt → (fa 1 2) j = (fa 1 2) j ∧ (fa 1 3) j = (fa 1 3) j ∧ (fa 1 4) j = (fa 1 4) j from fun j hj => ⟨rfl, rfl, rfl⟩) (show ∀ j : Nat, (j : Int) < 96 * (iv 1 7).toInt → (fa 1 5) j = (fa 1 5) j from fun j hj => rfl) (show (0 : Int32).toInt ≤ 13 from by omega) (show 0 ≤ (0 : Int32).toInt from by omega) (by first | decide | omega) _ _ ls hP hD hS (lv_sub hl [0, 1, 2] rfl)
set_option maxHeartbeats 4000000 in
set_option maxRecDepth 100000 in
/-- X1_enact -/
theorem c_X1_enact_r (l : Launch) (dC : Nat → ClassId) (dI : Nat → Nat → Nat) (sz : Nat) (h : Nat) (g : Nat → Nat → Nat) (ca : Nat → Nat → ClassId) (iv : Nat → Nat → Int32) (lv : Nat → Nat → Int64) (fa : Nat → Nat → Nat → Int32) (la : Nat → Nat → Nat → Int64) (hI : IX iv fa) (a : Int32) (q_1_7 : 0 ≤ (iv 1 7).toInt ∧ (iv 1 7).toInt ≤ 7) : Met l yX1_enact (wc yX1_enact cX1_enact 2 (some .int)) ({ frames := 0, cells := 0, slots := 0, locals := 0 } : Room) (pW (dC, dI) classes (WX h g ca iv lv fa la) (TX ca) sz [.ref (g 11 3), .int a]) (va_Qi (fun r (u : SS) => ∃ (na_1_0 : Nat → Int32) (na_1_1 : Nat → Int32) (ni_1_7 : Int32), (∀ j, inb (bA 1 1 j) (na_1_1 j)) ∧ inb (bI 1 7) ni_1_7 ∧ ni_1_7.toInt = (iv 1 7).toInt + 1 ∧ (r.toInt = (iv 1 7).toInt) ∧ ((ni_1_7).toInt = (iv 1 7).toInt + 1) ∧ (∀ j : Nat, j ≠ ((iv 1 7).toInt).toNat → na_1_0 j = (fa 1 0) j) ∧ (∀ j : Nat, j ≠ ((iv 1 7).toInt).toNat → na_1_1 j = (fa 1 1) j) ∧ (na_1_0 ((iv 1 7).toInt).toNat = a) ∧ ((na_1_1 ((iv 1 7).toInt).toNat).toInt = (iv 1 8).toInt) ∧ (0 ≤ r.toInt ∧ r.toInt ≤ 7) ∧ u = ((u2 iv 1 7 ni_1_7), lv, (u2 (u2 fa 1 0 na_1_0) 1 1 na_1_1), la)) (bX (dC, dI) h g ca (va_A (WX h g ca iv lv fa la) sz)) (va_A (WX h g ca iv lv fa la) sz)) 0 0 (va_A (WX h g ca iv lv fa la) sz) := by
  refine Met.ofW (cc := cX1_enact) (maxL := 2) (ret := (some .int)) (by decide) rfl ?_
  intro p e s m args below meth c s₁ B hml hv
  obtain ⟨rfl, hsz, hP, hK, hD0⟩ := hv
  have hx := B.exec
  have hb := B.bytes
  have hr := B.returns
  have ht := tb_tl (atoms_spec (ws := wc yX1_enact cX1_enact 2 (some .int)) B.pre)
  have hown : s.vm.findClass RX1 = some m.cls := findClass_of_methodNamed B.named
  have hlocks := B.notSynchronized
  subst hsz
  have hD := hD0.self (sz := s.heap.size)
  generalize hAe : va_A (WX h g ca iv lv fa la) s.heap.size = A at hD ⊢
  have hA : ∀ q : Nat, s.heap.size ≤ q → A q := fun q h => by rw [← hAe]; exact Or.inr h
  have hS : va_S A s.heap s.heap [] := va_S.rf
  have hl := lv_entry [.ref (g 11 3), .int a] (n := 2) (Nat.le_of_ble_eq_true rfl)
  rw [lg_entry_eq]
  generalize (lg_sl [.ref (g 11 3), .int a] ++ List.replicate (2 - (lg_sl [.ref (g 11 3), .int a]).length) Slot.unset).toArray = ls at hl ⊢
  have hl : lv_has ls 2 [(0, .ref (g 11 3)), (1, .int a)] := hl
  refine lv_aload_n hx hb dX1_enact_0 rfl (lv_at hl 0 rfl) ?_
  refine gX_1_0 hx hb ht hown hK hP m_189 dX1_enact_1 ?_
  refine lv_aload_n hx hb dX1_enact_4 rfl (lv_at hl 0 rfl) ?_
  have i_1_7 : 0 ≤ (iv 1 7).toInt ∧ (iv 1 7).toInt ≤ 8 := hI.1 1 7
  refine gX_1_7 hx hb ht hown hK hP m_196 (v := (iv 1 7)) rfl dX1_enact_5 ?_
  refine lv_iload_n hx hb dX1_enact_8 rfl (lv_at hl 1 rfl) ?_
  refine tX_1_0 hx hb hK hP hD hS (f0 := (fa 1 0)) rfl (i := (iv 1 7)) (x := a) (vp_in_iff.mpr ⟨by omega, by omega⟩) dX1_enact_9 (fun f1 ef1 H locs hP hD hS => ?_)
  have hf1 : ∀ j, inb (bA 1 0 j) (f1 j) := fun j => full_i _
  refine lv_aload_n hx hb dX1_enact_10 rfl (lv_at hl 0 rfl) ?_
  refine gX_1_1 hx hb ht hown hK hP m_190 dX1_enact_11 ?_
  refine lv_aload_n hx hb dX1_enact_14 rfl (lv_at hl 0 rfl) ?_
  refine gX_1_7 hx hb ht hown hK hP m_196 (v := (iv 1 7)) rfl dX1_enact_15 ?_
  refine lv_aload_n hx hb dX1_enact_18 rfl (lv_at hl 0 rfl) ?_
  have i_1_8 : 0 ≤ (iv 1 8).toInt ∧ (iv 1 8).toInt ≤ 12 := hI.1 1 8
  refine gX_1_8 hx hb ht hown hK hP m_199 (v := (iv 1 8)) rfl dX1_enact_19 ?_
  refine tX_1_1 hx hb hK hP hD hS (f0 := (fa 1 1)) rfl (i := (iv 1 7)) (x := (iv 1 8)) (vp_in_iff.mpr ⟨by omega, by omega⟩) dX1_enact_22 (fun f2 ef2 H locs hP hD hS => ?_)
  have hf2 : ∀ j, inb (bA 1 1 j) (f2 j) := by rw [ef2]; exact upd_b (b := bA 1 1) (hI.2 1 1) (show inb (0, 12) (iv 1 8) from ⟨by omega, by omega⟩)
  refine lv_aload_n hx hb dX1_enact_23 rfl (lv_at hl 0 rfl) ?_
  refine lv_dup hx hb dX1_enact_24 rfl ?_
  refine gX_1_7 hx hb ht hown hK hP m_196 (v := (iv 1 7)) rfl dX1_enact_25 ?_
  refine lv_iconst (v := 1) hx hb dX1_enact_28 (by decide) ?_
  refine lv_iadd hx hb dX1_enact_29 ?_
  refine lv_topi (fun v3 ev3 => ?_)
  have tv3 := z_add ev3 (rfl : ((iv 1 7)).toInt = _) (by decide : (1 : Int32).toInt = 1) (by omega) (by omega)
  refine pX_1_7 (v := v3) hx hb ht hown hK hP hD hS m_196 dX1_enact_30 (fun H locs hP hD hS => ?_)
  refine lv_aload_n hx hb dX1_enact_33 rfl (lv_at hl 0 rfl) ?_
  refine gX_1_7 hx hb ht hown hK hP m_196 (v := v3) rfl dX1_enact_34 ?_
  refine lv_iconst (v := 1) hx hb dX1_enact_37 (by decide) ?_
  refine lv_isub hx hb dX1_enact_38 ?_
  refine lv_topi (fun v4 ev4 => ?_)
  have tv4 := z_sub ev4 (rfl : (v3).toInt = _) (by decide : (1 : Int32).toInt = 1) (by omega) (by omega)
  have hP9 : va_P (dC, dI) classes (WX h g ca (u2 iv 1 7 v3) lv (u2 (u2 fa 1 0 f1) 1 1 f2) la) H := hP
  have hD9 : va_D A (WX h g ca (u2 iv 1 7 v3) lv (u2 (u2 fa 1 0 f1) 1 1 f2) la) := hD
  exact W.iret (v := v4) hx hb hr (fun t ht9 hW => ⟨⟨v4, ((u2 iv 1 7 v3), lv, (u2 (u2 fa 1 0 f1) 1 1 f2), la), rfl, ⟨f1, f2, v3, hf2, (show inb (0, 8) v3 from ⟨by omega, by omega⟩), (by omega), (show (v4 : Int32).toInt = (iv 1 7).toInt from by omega), (show (v3 : Int32).toInt = (iv 1 7).toInt + 1 from by omega), (show ∀ j : Nat, j ≠ ((iv 1 7).toInt).toNat → f1 j = (fa 1 0) j from fun j hj => by rw [ef1, upd_ne (show j ≠ (iv 1 7).toNatClampNeg from hj)]), (show ∀ j : Nat, j ≠ ((iv 1 7).toInt).toNat → f2 j = (fa 1 1) j from fun j hj => by rw [ef2, upd_ne (show j ≠ (iv 1 7).toNatClampNeg from hj)]), (show f1 ((iv 1 7).toInt).toNat = a from (by rw [ef1]; exact upd_eq)), (show (f2 ((iv 1 7).toInt).toNat).toInt = (iv 1 8).toInt from (by rw [ef2]; exact congrArg Int32.toInt upd_eq)), ⟨by omega, by omega⟩, rfl⟩, by rw [ht9]; exact hP9, hD9⟩, hS.F ht9⟩) hS.2.2 dX1_enact_39
