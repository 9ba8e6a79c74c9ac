/-! ===== rd6 ===== -/
set_option maxHeartbeats 4000000 in
set_option maxRecDepth 100000 in
/-- X8_readClause -/
theorem c_X8_readClause_r (l : Launch) (dC : Nat → ClassId) (dI : Nat → Nat → Nat) (sz : Nat) (ak av : Nat → Nat) (h : Nat) (g : Nat → Nat → Nat) (ca : Nat → Nat → ClassId) (iv : Nat → Nat → Int32) (lv : Nat → Nat → Int64) (fa : Nat → Nat → Nat → Int32) (la : Nat → Nat → Nat → Int64) (hI : IX iv fa) (q_1_7 : 0 ≤ (iv 1 7).toInt ∧ (iv 1 7).toInt ≤ 7) (hs0 : Sk (fun j => (fa 8 1 j).toInt) (iv 8 2).toInt (iv 8 5).toInt (iv 8 5).toInt) : Met l yX8_readClause (wc yX8_readClause cX8_readClause 3 (some .boolean)) ({ frames := 7, cells := 0, slots := 0, locals := 157 } : Room) (pWZ ak av (dC, dI) classes (WX h g ca iv lv fa la) (TX ca) sz [.ref (g 11 4)]) (va_Qi (fun r (u : SS) => ∃ (na_1_2 : Nat → Int32) (na_1_3 : Nat → Int32) (na_1_4 : Nat → Int32) (na_1_5 : Nat → Int32) (ni_1_8 : Int32) (ni_8_3 : Int32) (ni_8_4 : Int32) (ni_8_5 : Int32), inb (bI 1 8) ni_1_8 ∧ inb (bI 8 3) ni_8_3 ∧ inb (bI 8 4) ni_8_4 ∧ inb (bI 8 5) ni_8_5 ∧ (((r.toInt = 0 ∧ 1 ≤ (ni_8_4).toInt ∧ (ni_1_8).toInt = (iv 1 8).toInt ∧ ∃ (b kd v1 v2 : Int) (wd : Nat → Int), ClR (fun j => ((fa 8 1) j).toInt) (iv 8 2).toInt (iv 1 7).toInt (iv 8 5).toInt (iv 1 8).toInt (ni_8_4).toInt (ni_8_3).toInt b kd v1 v2 wd) ∨ (r.toInt = 1 ∧ (ni_8_4).toInt = (iv 8 4).toInt ∧ (ni_8_3).toInt = (iv 8 3).toInt ∧ (ni_1_8).toInt = (iv 1 8).toInt + 1 ∧ (iv 1 8).toInt ≤ 11 ∧ ClR (fun j => ((fa 8 1) j).toInt) (iv 8 2).toInt (iv 1 7).toInt (iv 8 5).toInt (iv 1 8).toInt 0 0 (ni_8_5).toInt (na_1_2 (12 * ((iv 1 7).toInt).toNat + ((iv 1 8).toInt).toNat)).toInt (na_1_3 (12 * ((iv 1 7).toInt).toNat + ((iv 1 8).toInt).toNat)).toInt (na_1_4 (12 * ((iv 1 7).toInt).toNat + ((iv 1 8).toInt).toNat)).toInt (fun j => (na_1_5 ((8 * (12 * ((iv 1 7).toInt).toNat + ((iv 1 8).toInt).toNat)) + j)).toInt)))) ∧ (∀ j : Nat, (j : Int) < 12 * (iv 1 7).toInt + (iv 1 8).toInt → na_1_2 j = (fa 1 2) j ∧ na_1_3 j = (fa 1 3) j ∧ na_1_4 j = (fa 1 4) j) ∧ (∀ j : Nat, (j : Int) < (8 * (12 * (iv 1 7).toInt + (iv 1 8).toInt)) → na_1_5 j = (fa 1 5) j) ∧ (0 ≤ r.toInt ∧ r.toInt ≤ 1) ∧ u = ((u2 (u2 (u2 (u2 iv 1 8 ni_1_8) 8 3 ni_8_3) 8 4 ni_8_4) 8 5 ni_8_5), lv, (u2 (u2 (u2 (u2 fa 1 2 na_1_2) 1 3 na_1_3) 1 4 na_1_4) 1 5 na_1_5), la)) (bX (dC, dI) h g ca (va_A (WX h g ca iv lv fa la) sz)) (va_A (WX h g ca iv lv fa la) sz)) 0 0 (va_A (WX h g ca iv lv fa la) sz) := by
  refine Met.ofW (cc := cX8_readClause) (maxL := 3) (ret := (some .boolean)) (by decide) rfl ?_
  intro p e s m args below meth c s₁ B hml hv
  obtain ⟨rfl, hsz, hP, hK, hD0, hZ⟩ := hv
  have hx := B.exec
  have hb := B.bytes
  have hr := B.returns
  have ht := tb_tl (atoms_spec (ws := wc yX8_readClause cX8_readClause 3 (some .boolean)) B.pre)
  have hown : s.vm.findClass RX8 = some m.cls := findClass_of_methodNamed B.named
  have hlocks := B.notSynchronized
  subst hsz
  have hD := hD0.self (sz := s.heap.size)
  generalize hAe : va_A (WX h g ca iv lv fa la) s.heap.size = A at hD hZ ⊢
  have hA : ∀ q : Nat, s.heap.size ≤ q → A q := fun q h => by rw [← hAe]; exact Or.inr h
  have hS : va_S A s.heap s.heap [] := va_S.rf
  have hl := lv_entry [.ref (g 11 4)] (n := 3) (Nat.le_of_ble_eq_true rfl)
  rw [lg_entry_eq]
  generalize (lg_sl [.ref (g 11 4)] ++ List.replicate (3 - (lg_sl [.ref (g 11 4)]).length) Slot.unset).toArray = ls at hl ⊢
  have hl : lv_has ls 3 [(0, .ref (g 11 4))] := hl
  refine lv_aload_n hx hb dX8_readClause_0 rfl (lv_at hl 0 rfl) ?_
  have i_8_5 : 0 ≤ (iv 8 5).toInt ∧ (iv 8 5).toInt ≤ 200 := hI.1 8 5
  refine gX_8_5 hx hb ht hown hK hP m_235 (v := (iv 8 5)) rfl dX8_readClause_1 ?_
  refine lv_istore_n (lv' := [(1, .int (iv 8 5)), (0, .ref (g 11 4))]) hx hb dX8_readClause_4 rfl hl (by decide) rfl (fun ls hl => ?_)
  refine lv_aload_n hx hb dX8_readClause_5 rfl (lv_at hl 1 rfl) ?_
  refine va_ldcS hx hb hown hZ.2.1 dX8_readClause_6 ?_
  have i_8_4 : 0 ≤ (iv 8 4).toInt ∧ (iv 8 4).toInt ≤ 5 := hI.1 8 4
  have i_8_3 : (-1) ≤ (iv 8 3).toInt ∧ (iv 8 3).toInt ≤ 200 := hI.1 8 3
  have hFc := free_all hD hS hA
  refine va_calli (va_runV (As := [.ref (ak 0)]) (rest := []) ⟨hx, hb, hml, hown, ht⟩ (c_X8_readOneOf_r0 l dC dI s.heap.size ak av h g ca iv lv fa la hI) (kV 1 ht m_697 m_699 m_18 m_82 m_700 rfl rfl hd_X8_readOneOf_v ⟨Nat.le_of_ble_eq_true rfl, Nat.le_of_ble_eq_true rfl⟩) (vWZ hP hK hD ((hZ.kept hS.2.1).narrow (free_all hD hS hA)) (rX_8 hK hP)) rfl rfl hl.1 rfl (lv_room (Nat.le_of_ble_eq_true rfl)) dX8_readClause_8 ⟨Nat.le_of_ble_eq_true rfl, Nat.le_of_ble_eq_true rfl⟩) hS (fun q _ h => hFc q h) hFc (fun r1 u t H1 locs ht9 hvm hr1 hB hz1 hk1 hS => ?_)
  obtain ⟨n2, n3, n4, hn2, hn3, hn4, xr1_0, hr1, rfl⟩ := hr1
  have hn2 : (-1) ≤ n2.toInt ∧ n2.toInt ≤ 200 := hn2
  have hn3 : 0 ≤ n3.toInt ∧ n3.toInt ≤ 5 := hn3
  have hn4 : 0 ≤ n4.toInt ∧ n4.toInt ≤ 200 := hn4
  obtain ⟨hP, hD⟩ := hB
  rw [ht9] at hP
  generalize H1 = H at hP hS ⊢
  have hP : va_P (dC, dI) classes (WX h g ca (u2 (u2 (u2 iv 8 3 n2) 8 4 n3) 8 5 n4) lv fa la) H := hP
  have hD : va_D A (WX h g ca (u2 (u2 (u2 iv 8 3 n2) 8 4 n3) 8 5 n4) lv fa la) := (show va_D _ (WX h g ca (u2 (u2 (u2 iv 8 3 n2) 8 4 n3) 8 5 n4) lv fa la) from hD).weaken (fun _ _ _ h => hFc _ h)
  have i_8_2 : 0 ≤ (iv 8 2).toInt ∧ (iv 8 2).toInt ≤ 200 := hI.1 8 2
  have xr1_0 : ∃ s e : Int, Sk (fun j => ((fa 8 1) j).toInt) ((iv 8 2) : Int32).toInt ((iv 8 5) : Int32).toInt s ∧ Rn (fun j => ((fa 8 1) j).toInt) ((iv 8 2) : Int32).toInt 97 122 s e ∧ (((r1 : Int32).toInt = -1 ∧ kwK (fun j => ((fa 8 1) j).toInt) s e = -1 ∧ (n3 : Int32).toInt = 1 ∧ (n2 : Int32).toInt = s) ∨ (0 ≤ (r1 : Int32).toInt ∧ (r1 : Int32).toInt = kwK (fun j => ((fa 8 1) j).toInt) s e ∧ (n3 : Int32).toInt = ((iv 8 4) : Int32).toInt ∧ (n2 : Int32).toInt = ((iv 8 3) : Int32).toInt ∧ (n4 : Int32).toInt = e)) := xr1_0
  refine lv_istore_n (lv' := [(2, .int r1), (1, .int (iv 8 5)), (0, .ref (g 11 4))]) hx hb dX8_readClause_11 rfl hl (by decide) rfl (fun ls hl => ?_)
  refine lv_iload_n hx hb dX8_readClause_12 rfl (lv_at hl 0 rfl) ?_
  refine lv_iconst (v := (-1)) hx hb dX8_readClause_13 (by decide) ?_
  refine lv_icmp_ne (tgt := 19) hx hb dX8_readClause_14 (by decide) (fun c5 => ?_) (fun c5 => ?_)
  · have fc5 := z_ne (rfl : (r1).toInt = _) (by decide : ((-1) : Int32).toInt = (-1)) c5
    refine lv_aload_n hx hb dX8_readClause_19 rfl (lv_at hl 2 rfl) ?_
    refine gX_8_0 hx hb ht hown hK hP m_228 dX8_readClause_20 ?_
    have i_1_8 : 0 ≤ (iv 1 8).toInt ∧ (iv 1 8).toInt ≤ 12 := hI.1 1 8
    refine gX_1_8 hx hb ht hown hK hP m_200 (v := (iv 1 8)) rfl dX8_readClause_23 ?_
    refine lv_bipush (v := 12) hx hb dX8_readClause_26 (by decide) ?_
    refine lv_icmp_lt (tgt := 38) hx hb dX8_readClause_28 (by decide) (fun c6 => ?_) (fun c6 => ?_)
    · have fc6 := z_lt (rfl : ((iv 1 8)).toInt = _) (by decide : (12 : Int32).toInt = 12) c6
      refine lv_iload_n hx hb dX8_readClause_38 rfl (lv_at hl 0 rfl) ?_
      rcases sw_0_2 r1 with h7 | rfl | rfl | rfl
      · refine lv_tableOut (tgt := 79) hx hb dX8_readClause_39 h7 (by decide) ?_
        refine lv_aload_n hx hb dX8_readClause_79 rfl (lv_at hl 2 rfl) ?_
        have i_1_7 : 0 ≤ (iv 1 7).toInt ∧ (iv 1 7).toInt ≤ 8 := hI.1 1 7
        have hFc := free_all hD hS hA
        refine va_calli (va_runV (As := []) (rest := []) ⟨hx, hb, hml, hown, ht⟩ (c_X8_readStrike_r l dC dI H.size ak av h g ca (u2 (u2 (u2 iv 8 3 n2) 8 4 n3) 8 5 n4) lv fa la (IX_i (c := 8) (k := 5) (IX_i (c := 8) (k := 4) (IX_i (c := 8) (k := 3) hI (show inb ((-1), 200) n2 from ⟨by omega, by omega⟩)) (show inb (0, 5) n3 from ⟨by omega, by omega⟩)) (show inb (0, 200) n4 from ⟨by omega, by omega⟩)) (show 0 ≤ ((iv 1 7) : Int32).toInt ∧ ((iv 1 7) : Int32).toInt ≤ 7 from ⟨by omega, by omega⟩) (show 0 ≤ ((iv 1 8) : Int32).toInt ∧ ((iv 1 8) : Int32).toInt ≤ 11 from ⟨by omega, by omega⟩)) (kV 0 ht m_801 m_803 m_28 m_82 m_804 rfl rfl hd_X8_readStrike_v ⟨Nat.le_of_ble_eq_true rfl, Nat.le_of_ble_eq_true rfl⟩) (vWZ hP hK hD ((hZ.kept hS.2.1).narrow (free_all hD hS hA)) (rX_8 hK hP)) rfl rfl hl.1 rfl (lv_room (Nat.le_of_ble_eq_true rfl)) dX8_readClause_80 ⟨Nat.le_of_ble_eq_true rfl, Nat.le_of_ble_eq_true rfl⟩) hS (fun q _ h => hFc q h) hFc (fun r8 u t H1 locs ht9 hvm hr8 hB hz1 hk1 hS => ?_)
        obtain ⟨n9, n10, n11, n12, n13, n14, n15, hn12, hn13, hn14, hn15, xr8_0, xr8_1, hr8, rfl⟩ := hr8
        have hn9 : ∀ j, inb (bA 1 2 j) (n9 j) := fun j => full_i _
        have hn10 : ∀ j, inb (bA 1 3 j) (n10 j) := fun j => full_i _
        have hn11 : ∀ j, inb (bA 1 4 j) (n11 j) := fun j => full_i _
        have hn12 : 0 ≤ n12.toInt ∧ n12.toInt ≤ 12 := hn12
        have hn13 : (-1) ≤ n13.toInt ∧ n13.toInt ≤ 200 := hn13
        have hn14 : 0 ≤ n14.toInt ∧ n14.toInt ≤ 5 := hn14
        have hn15 : 0 ≤ n15.toInt ∧ n15.toInt ≤ 200 := hn15
        obtain ⟨hP, hD⟩ := hB
        rw [ht9] at hP
        generalize H1 = H at hP hS ⊢
        have hP : va_P (dC, dI) classes (WX h g ca (u2 (u2 (u2 (u2 iv 8 3 n13) 8 4 n14) 8 5 n15) 1 8 n12) lv (u2 (u2 (u2 fa 1 2 n9) 1 3 n10) 1 4 n11) la) H := hP
        have hD : va_D A (WX h g ca (u2 (u2 (u2 (u2 iv 8 3 n13) 8 4 n14) 8 5 n15) 1 8 n12) lv (u2 (u2 (u2 fa 1 2 n9) 1 3 n10) 1 4 n11) la) := (show va_D _ (WX h g ca (u2 (u2 (u2 (u2 iv 8 3 n13) 8 4 n14) 8 5 n15) 1 8 n12) lv (u2 (u2 (u2 fa 1 2 n9) 1 3 n10) 1 4 n11) la) from hD).weaken (fun _ _ _ h => hFc _ h)
        have xr8_0 : (((r8 : Int32).toInt = 0 ∧ 1 ≤ (n14 : Int32).toInt ∧ (n12 : Int32).toInt = ((iv 1 8) : Int32).toInt ∧ ∃ b kd v1 : Int, StrR (fun j => ((fa 8 1) j).toInt) ((iv 8 2) : Int32).toInt ((iv 1 7) : Int32).toInt (n4 : Int32).toInt (n14 : Int32).toInt (n13 : Int32).toInt b kd v1 ) ∨ ((r8 : Int32).toInt = 1 ∧ (n14 : Int32).toInt = (n3 : Int32).toInt ∧ (n13 : Int32).toInt = (n2 : Int32).toInt ∧ (n12 : Int32).toInt = ((iv 1 8) : Int32).toInt + 1 ∧ StrR (fun j => ((fa 8 1) j).toInt) ((iv 8 2) : Int32).toInt ((iv 1 7) : Int32).toInt (n4 : Int32).toInt 0 0 (n15 : Int32).toInt (n9 (12 * (((iv 1 7) : Int32).toInt).toNat + (((iv 1 8) : Int32).toInt).toNat)).toInt (n10 (12 * (((iv 1 7) : Int32).toInt).toNat + (((iv 1 8) : Int32).toInt).toNat)).toInt)) := xr8_0
        have xr8_1 : ∀ j : Nat, (j : Int) < 12 * ((iv 1 7) : Int32).toInt + ((iv 1 8) : Int32).toInt → n9 j = (fa 1 2) j ∧ n10 j = (fa 1 3) j ∧ n11 j = (fa 1 4) j := xr8_1
        have hP9 : va_P (dC, dI) classes (WX h g ca (u2 (u2 (u2 (u2 iv 1 8 n12) 8 3 n13) 8 4 n14) 8 5 n15) lv (u2 (u2 (u2 (u2 fa 1 2 n9) 1 3 n10) 1 4 n11) 1 5 (fa 1 5)) la) H := hP
        have hD9 : va_D A (WX h g ca (u2 (u2 (u2 (u2 iv 1 8 n12) 8 3 n13) 8 4 n14) 8 5 n15) lv (u2 (u2 (u2 (u2 fa 1 2 n9) 1 3 n10) 1 4 n11) 1 5 (fa 1 5)) la) := hD
        exact W.zret (v := r8) hx hb hr (nar01 ⟨by omega, by omega⟩) (fun t ht9 hW => ⟨⟨r8, ((u2 (u2 (u2 (u2 iv 1 8 n12) 8 3 n13) 8 4 n14) 8 5 n15), lv, (u2 (u2 (u2 (u2 fa 1 2 n9) 1 3 n10) 1 4 n11) 1 5 (fa 1 5)), la), rfl, ⟨n9, n10, n11, (fa 1 5), n12, n13, n14, n15, (show inb (0, 12) n12 from ⟨by omega, by omega⟩), (show inb ((-1), 200) n13 from ⟨by omega, by omega⟩), (show inb (0, 5) n14 from ⟨by omega, by omega⟩), (show inb (0, 200) n15 from ⟨by omega, by omega⟩), (show (((r8 : Int32).toInt = 0 ∧ 1 ≤ (n14 : Int32).toInt ∧ (n12 : Int32).toInt = (iv 1 8).toInt ∧ ∃ (b kd v1 v2 : Int) (wd : Nat → Int), ClR (fun j => ((fa 8 1) j).toInt) ((iv 8 2) : Int32).toInt (iv 1 7).toInt (iv 8 5).toInt (iv 1 8).toInt (n14 : Int32).toInt (n13 : Int32).toInt b kd v1 v2 wd) ∨ ((r8 : Int32).toInt = 1 ∧ (n14 : Int32).toInt = (iv 8 4).toInt ∧ (n13 : Int32).toInt = (iv 8 3).toInt ∧ (n12 : Int32).toInt = (iv 1 8).toInt + 1 ∧ (iv 1 8).toInt ≤ 11 ∧ ClR (fun j => ((fa 8 1) j).toInt) ((iv 8 2) : Int32).toInt (iv 1 7).toInt (iv 8 5).toInt (iv 1 8).toInt 0 0 (n15 : Int32).toInt (n9 (12 * ((iv 1 7).toInt).toNat + ((iv 1 8).toInt).toNat)).toInt (n10 (12 * ((iv 1 7).toInt).toNat + ((iv 1 8).toInt).toNat)).toInt (n11 (12 * ((iv 1 7).toInt).toNat + ((iv 1 8).toInt).toNat)).toInt (fun j => ((fa 1 5) ((8 * (12 * ((iv 1 7).toInt).toNat + ((iv 1 8).toInt).toNat)) + j)).toInt))) from (by
              obtain ⟨s, e, k1, k2, k3⟩ := xr1_0
              have es := Sk_un (by omega) hs0 k1
              subst es
              rcases k3 with ⟨k4, -⟩ | ⟨k4, k5, k6, k7, k8⟩
              · exfalso; omega
              · skip
                rcases xr8_0 with ⟨p1, p2, p3, b, kd, v1, p4⟩ | ⟨p1, p2, p3, p4, p5⟩
                · rw [k8] at p4; exact Or.inl ⟨by omega, by omega, by omega, b, kd, v1, 0, (fun _ => 0), e, k2, Or.inr (Or.inr (Or.inr (Or.inr (Or.inr (⟨by omega, by omega, p4⟩)))))⟩
                · rw [k8] at p5; exact Or.inr ⟨by omega, by omega, by omega, by omega, by omega, e, k2, Or.inr (Or.inr (Or.inr (Or.inr (Or.inr (⟨by omega, by omega, p5⟩)))))⟩)), (show ∀ j : Nat, (j : Int) < 12 * (iv 1 7).toInt + (iv 1 8).toInt → n9 j = (fa 1 2) j ∧ n10 j = (fa 1 3) j ∧ n11 j = (fa 1 4) j from xr8_1), (show ∀ j : Nat, (j : Int) < (8 * (12 * (iv 1 7).toInt + (iv 1 8).toInt)) → (fa 1 5) j = (fa 1 5) j from fun j hj => rfl), ⟨by omega, by omega⟩, rfl⟩, by rw [ht9]; exact hP9, hD9⟩, hS.F ht9⟩) hS.2.2 dX8_readClause_83
      · refine lv_tableIn (tgt := 64) (off := 25) hx hb dX8_readClause_39 (by decide) (by decide) rfl (by decide) ?_
        refine lv_aload_n hx hb dX8_readClause_64 rfl (lv_at hl 2 rfl) ?_
        have i_1_7 : 0 ≤ (iv 1 7).toInt ∧ (iv 1 7).toInt ≤ 8 := hI.1 1 7
        have hFc := free_all hD hS hA
        refine va_calli (va_runV (As := []) (rest := []) ⟨hx, hb, hml, hown, ht⟩ (c_X8_readLet_r l dC dI H.size ak av h g ca (u2 (u2 (u2 iv 8 3 n2) 8 4 n3) 8 5 n4) lv fa la (IX_i (c := 8) (k := 5) (IX_i (c := 8) (k := 4) (IX_i (c := 8) (k := 3) hI (show inb ((-1), 200) n2 from ⟨by omega, by omega⟩)) (show inb (0, 5) n3 from ⟨by omega, by omega⟩)) (show inb (0, 200) n4 from ⟨by omega, by omega⟩)) (show 0 ≤ ((iv 1 7) : Int32).toInt ∧ ((iv 1 7) : Int32).toInt ≤ 7 from ⟨by omega, by omega⟩) (show 0 ≤ ((iv 1 8) : Int32).toInt ∧ ((iv 1 8) : Int32).toInt ≤ 11 from ⟨by omega, by omega⟩)) (kV 0 ht m_761 m_763 m_22 m_82 m_764 rfl rfl hd_X8_readLet_v ⟨Nat.le_of_ble_eq_true rfl, Nat.le_of_ble_eq_true rfl⟩) (vWZ hP hK hD ((hZ.kept hS.2.1).narrow (free_all hD hS hA)) (rX_8 hK hP)) rfl rfl hl.1 rfl (lv_room (Nat.le_of_ble_eq_true rfl)) dX8_readClause_65 ⟨Nat.le_of_ble_eq_true rfl, Nat.le_of_ble_eq_true rfl⟩) hS (fun q _ h => hFc q h) hFc (fun r16 u t H1 locs ht9 hvm hr16 hB hz1 hk1 hS => ?_)
        obtain ⟨n17, n18, n19, n20, n21, n22, n23, hn20, hn21, hn22, hn23, xr16_0, xr16_1, hr16, rfl⟩ := hr16
        have hn17 : ∀ j, inb (bA 1 2 j) (n17 j) := fun j => full_i _
        have hn18 : ∀ j, inb (bA 1 3 j) (n18 j) := fun j => full_i _
        have hn19 : ∀ j, inb (bA 1 4 j) (n19 j) := fun j => full_i _
        have hn20 : 0 ≤ n20.toInt ∧ n20.toInt ≤ 12 := hn20
        have hn21 : (-1) ≤ n21.toInt ∧ n21.toInt ≤ 200 := hn21
        have hn22 : 0 ≤ n22.toInt ∧ n22.toInt ≤ 5 := hn22
        have hn23 : 0 ≤ n23.toInt ∧ n23.toInt ≤ 200 := hn23
        obtain ⟨hP, hD⟩ := hB
        rw [ht9] at hP
        generalize H1 = H at hP hS ⊢
        have hP : va_P (dC, dI) classes (WX h g ca (u2 (u2 (u2 (u2 iv 8 3 n21) 8 4 n22) 8 5 n23) 1 8 n20) lv (u2 (u2 (u2 fa 1 2 n17) 1 3 n18) 1 4 n19) la) H := hP
        have hD : va_D A (WX h g ca (u2 (u2 (u2 (u2 iv 8 3 n21) 8 4 n22) 8 5 n23) 1 8 n20) lv (u2 (u2 (u2 fa 1 2 n17) 1 3 n18) 1 4 n19) la) := (show va_D _ (WX h g ca (u2 (u2 (u2 (u2 iv 8 3 n21) 8 4 n22) 8 5 n23) 1 8 n20) lv (u2 (u2 (u2 fa 1 2 n17) 1 3 n18) 1 4 n19) la) from hD).weaken (fun _ _ _ h => hFc _ h)
        have xr16_0 : (((r16 : Int32).toInt = 0 ∧ 1 ≤ (n22 : Int32).toInt ∧ (n20 : Int32).toInt = ((iv 1 8) : Int32).toInt ∧ ∃ b kd v1 : Int, LetR (fun j => ((fa 8 1) j).toInt) ((iv 8 2) : Int32).toInt (n4 : Int32).toInt (n22 : Int32).toInt (n21 : Int32).toInt b kd v1 ) ∨ ((r16 : Int32).toInt = 1 ∧ (n22 : Int32).toInt = (n3 : Int32).toInt ∧ (n21 : Int32).toInt = (n2 : Int32).toInt ∧ (n20 : Int32).toInt = ((iv 1 8) : Int32).toInt + 1 ∧ LetR (fun j => ((fa 8 1) j).toInt) ((iv 8 2) : Int32).toInt (n4 : Int32).toInt 0 0 (n23 : Int32).toInt (n17 (12 * (((iv 1 7) : Int32).toInt).toNat + (((iv 1 8) : Int32).toInt).toNat)).toInt (n18 (12 * (((iv 1 7) : Int32).toInt).toNat + (((iv 1 8) : Int32).toInt).toNat)).toInt)) := xr16_0
        have xr16_1 : ∀ j : Nat, (j : Int) < 12 * ((iv 1 7) : Int32).toInt + ((iv 1 8) : Int32).toInt → n17 j = (fa 1 2) j ∧ n18 j = (fa 1 3) j ∧ n19 j = (fa 1 4) j := xr16_1
        have hP9 : va_P (dC, dI) classes (WX h g ca (u2 (u2 (u2 (u2 iv 1 8 n20) 8 3 n21) 8 4 n22) 8 5 n23) lv (u2 (u2 (u2 (u2 fa 1 2 n17) 1 3 n18) 1 4 n19) 1 5 (fa 1 5)) la) H := hP
        have hD9 : va_D A (WX h g ca (u2 (u2 (u2 (u2 iv 1 8 n20) 8 3 n21) 8 4 n22) 8 5 n23) lv (u2 (u2 (u2 (u2 fa 1 2 n17) 1 3 n18) 1 4 n19) 1 5 (fa 1 5)) la) := hD
        exact W.zret (v := r16) hx hb hr (nar01 ⟨by omega, by omega⟩) (fun t ht9 hW => ⟨⟨r16, ((u2 (u2 (u2 (u2 iv 1 8 n20) 8 3 n21) 8 4 n22) 8 5 n23), lv, (u2 (u2 (u2 (u2 fa 1 2 n17) 1 3 n18) 1 4 n19) 1 5 (fa 1 5)), la), rfl, ⟨n17, n18, n19, (fa 1 5), n20, n21, n22, n23, (show inb (0, 12) n20 from ⟨by omega, by omega⟩), (show inb ((-1), 200) n21 from ⟨by omega, by omega⟩), (show inb (0, 5) n22 from ⟨by omega, by omega⟩), (show inb (0, 200) n23 from ⟨by omega, by omega⟩), (show (((r16 : Int32).toInt = 0 ∧ 1 ≤ (n22 : Int32).toInt ∧ (n20 : Int32).toInt = (iv 1 8).toInt ∧ ∃ (b kd v1 v2 : Int) (wd : Nat → Int), ClR (fun j => ((fa 8 1) j).toInt) ((iv 8 2) : Int32).toInt (iv 1 7).toInt (iv 8 5).toInt (iv 1 8).toInt (n22 : Int32).toInt (n21 : Int32).toInt b kd v1 v2 wd) ∨ ((r16 : Int32).toInt = 1 ∧ (n22 : Int32).toInt = (iv 8 4).toInt ∧ (n21 : Int32).toInt = (iv 8 3).toInt ∧ (n20 : Int32).toInt = (iv 1 8).toInt + 1 ∧ (iv 1 8).toInt ≤ 11 ∧ ClR (fun j => ((fa 8 1) j).toInt) ((iv 8 2) : Int32).toInt (iv 1 7).toInt (iv 8 5).toInt (iv 1 8).toInt 0 0 (n23 : Int32).toInt (n17 (12 * ((iv 1 7).toInt).toNat + ((iv 1 8).toInt).toNat)).toInt (n18 (12 * ((iv 1 7).toInt).toNat + ((iv 1 8).toInt).toNat)).toInt (n19 (12 * ((iv 1 7).toInt).toNat + ((iv 1 8).toInt).toNat)).toInt (fun j => ((fa 1 5) ((8 * (12 * ((iv 1 7).toInt).toNat + ((iv 1 8).toInt).toNat)) + j)).toInt))) from (by
              obtain ⟨s, e, k1, k2, k3⟩ := xr1_0
              have es := Sk_un (by omega) hs0 k1
              subst es
              rcases k3 with ⟨k4, -⟩ | ⟨k4, k5, k6, k7, k8⟩
              · exfalso; omega
              · have z9 : (0 : Int32).toInt = 0 := by decide
                rcases xr16_0 with ⟨p1, p2, p3, b, kd, v1, p4⟩ | ⟨p1, p2, p3, p4, p5⟩
                · rw [k8] at p4; exact Or.inl ⟨by omega, by omega, by omega, b, kd, v1, 0, (fun _ => 0), e, k2, Or.inr (Or.inr (Or.inl ⟨by omega, by omega, p4⟩))⟩
                · rw [k8] at p5; exact Or.inr ⟨by omega, by omega, by omega, by omega, by omega, e, k2, Or.inr (Or.inr (Or.inl ⟨by omega, by omega, p5⟩))⟩)), (show ∀ j : Nat, (j : Int) < 12 * (iv 1 7).toInt + (iv 1 8).toInt → n17 j = (fa 1 2) j ∧ n18 j = (fa 1 3) j ∧ n19 j = (fa 1 4) j from xr16_1), (show ∀ j : Nat, (j : Int) < (8 * (12 * (iv 1 7).toInt + (iv 1 8).toInt)) → (fa 1 5) j = (fa 1 5) j from fun j hj => rfl), ⟨by omega, by omega⟩, rfl⟩, by rw [ht9]; exact hP9, hD9⟩, hS.F ht9⟩) hS.2.2 dX8_readClause_68
      · refine lv_tableIn (tgt := 69) (off := 30) hx hb dX8_readClause_39 (by decide) (by decide) rfl (by decide) ?_
        refine lv_aload_n hx hb dX8_readClause_69 rfl (lv_at hl 2 rfl) ?_
        have i_1_7 : 0 ≤ (iv 1 7).toInt ∧ (iv 1 7).toInt ≤ 8 := hI.1 1 7
        have hFc := free_all hD hS hA
        refine va_calli (va_runV (As := []) (rest := []) ⟨hx, hb, hml, hown, ht⟩ (c_X8_readTake_r l dC dI H.size ak av h g ca (u2 (u2 (u2 iv 8 3 n2) 8 4 n3) 8 5 n4) lv fa la (IX_i (c := 8) (k := 5) (IX_i (c := 8) (k := 4) (IX_i (c := 8) (k := 3) hI (show inb ((-1), 200) n2 from ⟨by omega, by omega⟩)) (show inb (0, 5) n3 from ⟨by omega, by omega⟩)) (show inb (0, 200) n4 from ⟨by omega, by omega⟩)) (show 0 ≤ ((iv 1 7) : Int32).toInt ∧ ((iv 1 7) : Int32).toInt ≤ 7 from ⟨by omega, by omega⟩) (show 0 ≤ ((iv 1 8) : Int32).toInt ∧ ((iv 1 8) : Int32).toInt ≤ 11 from ⟨by omega, by omega⟩)) (kV 0 ht m_783 m_785 m_25 m_82 m_786 rfl rfl hd_X8_readTake_v ⟨Nat.le_of_ble_eq_true rfl, Nat.le_of_ble_eq_true rfl⟩) (vWZ hP hK hD ((hZ.kept hS.2.1).narrow (free_all hD hS hA)) (rX_8 hK hP)) rfl rfl hl.1 rfl (lv_room (Nat.le_of_ble_eq_true rfl)) dX8_readClause_70 ⟨Nat.le_of_ble_eq_true rfl, Nat.le_of_ble_eq_true rfl⟩) hS (fun q _ h => hFc q h) hFc (fun r24 u t H1 locs ht9 hvm hr24 hB hz1 hk1 hS => ?_)
        obtain ⟨n25, n26, n27, n28, n29, n30, n31, hn28, hn29, hn30, hn31, xr24_0, xr24_1, hr24, rfl⟩ := hr24
        have hn25 : ∀ j, inb (bA 1 2 j) (n25 j) := fun j => full_i _
        have hn26 : ∀ j, inb (bA 1 3 j) (n26 j) := fun j => full_i _
        have hn27 : ∀ j, inb (bA 1 4 j) (n27 j) := fun j => full_i _
        have hn28 : 0 ≤ n28.toInt ∧ n28.toInt ≤ 12 := hn28
        have hn29 : (-1) ≤ n29.toInt ∧ n29.toInt ≤ 200 := hn29
        have hn30 : 0 ≤ n30.toInt ∧ n30.toInt ≤ 5 := hn30
        have hn31 : 0 ≤ n31.toInt ∧ n31.toInt ≤ 200 := hn31
        obtain ⟨hP, hD⟩ := hB
        rw [ht9] at hP
        generalize H1 = H at hP hS ⊢
        have hP : va_P (dC, dI) classes (WX h g ca (u2 (u2 (u2 (u2 iv 8 3 n29) 8 4 n30) 8 5 n31) 1 8 n28) lv (u2 (u2 (u2 fa 1 2 n25) 1 3 n26) 1 4 n27) la) H := hP
        have hD : va_D A (WX h g ca (u2 (u2 (u2 (u2 iv 8 3 n29) 8 4 n30) 8 5 n31) 1 8 n28) lv (u2 (u2 (u2 fa 1 2 n25) 1 3 n26) 1 4 n27) la) := (show va_D _ (WX h g ca (u2 (u2 (u2 (u2 iv 8 3 n29) 8 4 n30) 8 5 n31) 1 8 n28) lv (u2 (u2 (u2 fa 1 2 n25) 1 3 n26) 1 4 n27) la) from hD).weaken (fun _ _ _ h => hFc _ h)
        have xr24_0 : (((r24 : Int32).toInt = 0 ∧ 1 ≤ (n30 : Int32).toInt ∧ (n28 : Int32).toInt = ((iv 1 8) : Int32).toInt ∧ ∃ b kd v1 : Int, TakR (fun j => ((fa 8 1) j).toInt) ((iv 8 2) : Int32).toInt (n4 : Int32).toInt (n30 : Int32).toInt (n29 : Int32).toInt b kd v1 ) ∨ ((r24 : Int32).toInt = 1 ∧ (n30 : Int32).toInt = (n3 : Int32).toInt ∧ (n29 : Int32).toInt = (n2 : Int32).toInt ∧ (n28 : Int32).toInt = ((iv 1 8) : Int32).toInt + 1 ∧ TakR (fun j => ((fa 8 1) j).toInt) ((iv 8 2) : Int32).toInt (n4 : Int32).toInt 0 0 (n31 : Int32).toInt (n25 (12 * (((iv 1 7) : Int32).toInt).toNat + (((iv 1 8) : Int32).toInt).toNat)).toInt (n26 (12 * (((iv 1 7) : Int32).toInt).toNat + (((iv 1 8) : Int32).toInt).toNat)).toInt)) := xr24_0
        have xr24_1 : ∀ j : Nat, (j : Int) < 12 * ((iv 1 7) : Int32).toInt + ((iv 1 8) : Int32).toInt → n25 j = (fa 1 2) j ∧ n26 j = (fa 1 3) j ∧ n27 j = (fa 1 4) j := xr24_1
        have hP9 : va_P (dC, dI) classes (WX h g ca (u2 (u2 (u2 (u2 iv 1 8 n28) 8 3 n29) 8 4 n30) 8 5 n31) lv (u2 (u2 (u2 (u2 fa 1 2 n25) 1 3 n26) 1 4 n27) 1 5 (fa 1 5)) la) H := hP
        have hD9 : va_D A (WX h g ca (u2 (u2 (u2 (u2 iv 1 8 n28) 8 3 n29) 8 4 n30) 8 5 n31) lv (u2 (u2 (u2 (u2 fa 1 2 n25) 1 3 n26) 1 4 n27) 1 5 (fa 1 5)) la) := hD
        exact W.zret (v := r24) hx hb hr (nar01 ⟨by omega, by omega⟩) (fun t ht9 hW => ⟨⟨r24, ((u2 (u2 (u2 (u2 iv 1 8 n28) 8 3 n29) 8 4 n30) 8 5 n31), lv, (u2 (u2 (u2 (u2 fa 1 2 n25) 1 3 n26) 1 4 n27) 1 5 (fa 1 5)), la), rfl, ⟨n25, n26, n27, (fa 1 5), n28, n29, n30, n31, (show inb (0, 12) n28 from ⟨by omega, by omega⟩), (show inb ((-1), 200) n29 from ⟨by omega, by omega⟩), (show inb (0, 5) n30 from ⟨by omega, by omega⟩), (show inb (0, 200) n31 from ⟨by omega, by omega⟩), (show (((r24 : Int32).toInt = 0 ∧ 1 ≤ (n30 : Int32).toInt ∧ (n28 : Int32).toInt = (iv 1 8).toInt ∧ ∃ (b kd v1 v2 : Int) (wd : Nat → Int), ClR (fun j => ((fa 8 1) j).toInt) ((iv 8 2) : Int32).toInt (iv 1 7).toInt (iv 8 5).toInt (iv 1 8).toInt (n30 : Int32).toInt (n29 : Int32).toInt b kd v1 v2 wd) ∨ ((r24 : Int32).toInt = 1 ∧ (n30 : Int32).toInt = (iv 8 4).toInt ∧ (n29 : Int32).toInt = (iv 8 3).toInt ∧ (n28 : Int32).toInt = (iv 1 8).toInt + 1 ∧ (iv 1 8).toInt ≤ 11 ∧ ClR (fun j => ((fa 8 1) j).toInt) ((iv 8 2) : Int32).toInt (iv 1 7).toInt (iv 8 5).toInt (iv 1 8).toInt 0 0 (n31 : Int32).toInt (n25 (12 * ((iv 1 7).toInt).toNat + ((iv 1 8).toInt).toNat)).toInt (n26 (12 * ((iv 1 7).toInt).toNat + ((iv 1 8).toInt).toNat)).toInt (n27 (12 * ((iv 1 7).toInt).toNat + ((iv 1 8).toInt).toNat)).toInt (fun j => ((fa 1 5) ((8 * (12 * ((iv 1 7).toInt).toNat + ((iv 1 8).toInt).toNat)) + j)).toInt))) from (by
              obtain ⟨s, e, k1, k2, k3⟩ := xr1_0
              have es := Sk_un (by omega) hs0 k1
              subst es
              rcases k3 with ⟨k4, -⟩ | ⟨k4, k5, k6, k7, k8⟩
              · exfalso; omega
              · have z9 : (1 : Int32).toInt = 1 := by decide
                rcases xr24_0 with ⟨p1, p2, p3, b, kd, v1, p4⟩ | ⟨p1, p2, p3, p4, p5⟩
                · rw [k8] at p4; exact Or.inl ⟨by omega, by omega, by omega, b, kd, v1, 0, (fun _ => 0), e, k2, Or.inr (Or.inr (Or.inr (Or.inl ⟨by omega, by omega, p4⟩)))⟩
                · rw [k8] at p5; exact Or.inr ⟨by omega, by omega, by omega, by omega, by omega, e, k2, Or.inr (Or.inr (Or.inr (Or.inl ⟨by omega, by omega, p5⟩)))⟩)), (show ∀ j : Nat, (j : Int) < 12 * (iv 1 7).toInt + (iv 1 8).toInt → n25 j = (fa 1 2) j ∧ n26 j = (fa 1 3) j ∧ n27 j = (fa 1 4) j from xr24_1), (show ∀ j : Nat, (j : Int) < (8 * (12 * (iv 1 7).toInt + (iv 1 8).toInt)) → (fa 1 5) j = (fa 1 5) j from fun j hj => rfl), ⟨by omega, by omega⟩, rfl⟩, by rw [ht9]; exact hP9, hD9⟩, hS.F ht9⟩) hS.2.2 dX8_readClause_73
      · refine lv_tableIn (tgt := 74) (off := 35) hx hb dX8_readClause_39 (by decide) (by decide) rfl (by decide) ?_
        refine lv_aload_n hx hb dX8_readClause_74 rfl (lv_at hl 2 rfl) ?_
        have i_1_7 : 0 ≤ (iv 1 7).toInt ∧ (iv 1 7).toInt ≤ 8 := hI.1 1 7
        have hFc := free_all hD hS hA
        refine va_calli (va_runV (As := []) (rest := []) ⟨hx, hb, hml, hown, ht⟩ (c_X8_readName_r l dC dI H.size ak av h g ca (u2 (u2 (u2 iv 8 3 n2) 8 4 n3) 8 5 n4) lv fa la (IX_i (c := 8) (k := 5) (IX_i (c := 8) (k := 4) (IX_i (c := 8) (k := 3) hI (show inb ((-1), 200) n2 from ⟨by omega, by omega⟩)) (show inb (0, 5) n3 from ⟨by omega, by omega⟩)) (show inb (0, 200) n4 from ⟨by omega, by omega⟩)) (show 0 ≤ ((iv 1 7) : Int32).toInt ∧ ((iv 1 7) : Int32).toInt ≤ 7 from ⟨by omega, by omega⟩) (show 0 ≤ ((iv 1 8) : Int32).toInt ∧ ((iv 1 8) : Int32).toInt ≤ 11 from ⟨by omega, by omega⟩)) (kV 0 ht m_788 m_790 m_26 m_82 m_791 rfl rfl hd_X8_readName_v ⟨Nat.le_of_ble_eq_true rfl, Nat.le_of_ble_eq_true rfl⟩) (vWZ hP hK hD ((hZ.kept hS.2.1).narrow (free_all hD hS hA)) (rX_8 hK hP)) rfl rfl hl.1 rfl (lv_room (Nat.le_of_ble_eq_true rfl)) dX8_readClause_75 ⟨Nat.le_of_ble_eq_true rfl, Nat.le_of_ble_eq_true rfl⟩) hS (fun q _ h => hFc q h) hFc (fun r32 u t H1 locs ht9 hvm hr32 hB hz1 hk1 hS => ?_)
        obtain ⟨n33, n34, n35, n36, n37, n38, n39, n40, hn37, hn38, hn39, hn40, xr32_0, xr32_1, xr32_2, hr32, rfl⟩ := hr32
        have hn33 : ∀ j, inb (bA 1 2 j) (n33 j) := fun j => full_i _
        have hn34 : ∀ j, inb (bA 1 3 j) (n34 j) := fun j => full_i _
        have hn35 : ∀ j, inb (bA 1 4 j) (n35 j) := fun j => full_i _
        have hn36 : ∀ j, inb (bA 1 5 j) (n36 j) := fun j => full_i _
        have hn37 : 0 ≤ n37.toInt ∧ n37.toInt ≤ 12 := hn37
        have hn38 : (-1) ≤ n38.toInt ∧ n38.toInt ≤ 200 := hn38
        have hn39 : 0 ≤ n39.toInt ∧ n39.toInt ≤ 5 := hn39
        have hn40 : 0 ≤ n40.toInt ∧ n40.toInt ≤ 200 := hn40
        obtain ⟨hP, hD⟩ := hB
        rw [ht9] at hP
        generalize H1 = H at hP hS ⊢
        have hP : va_P (dC, dI) classes (WX h g ca (u2 (u2 (u2 (u2 iv 8 3 n38) 8 4 n39) 8 5 n40) 1 8 n37) lv (u2 (u2 (u2 (u2 fa 1 2 n33) 1 3 n34) 1 4 n35) 1 5 n36) la) H := hP
        have hD : va_D A (WX h g ca (u2 (u2 (u2 (u2 iv 8 3 n38) 8 4 n39) 8 5 n40) 1 8 n37) lv (u2 (u2 (u2 (u2 fa 1 2 n33) 1 3 n34) 1 4 n35) 1 5 n36) la) := (show va_D _ (WX h g ca (u2 (u2 (u2 (u2 iv 8 3 n38) 8 4 n39) 8 5 n40) 1 8 n37) lv (u2 (u2 (u2 (u2 fa 1 2 n33) 1 3 n34) 1 4 n35) 1 5 n36) la) from hD).weaken (fun _ _ _ h => hFc _ h)
        have xr32_0 : (((r32 : Int32).toInt = 0 ∧ 1 ≤ (n39 : Int32).toInt ∧ (n37 : Int32).toInt = ((iv 1 8) : Int32).toInt ∧ ∃ (b kd v1 v2 : Int) (wd : Nat → Int), NamR (fun j => ((fa 8 1) j).toInt) ((iv 8 2) : Int32).toInt (n4 : Int32).toInt (n39 : Int32).toInt (n38 : Int32).toInt b kd v1 v2 wd) ∨ ((r32 : Int32).toInt = 1 ∧ (n39 : Int32).toInt = (n3 : Int32).toInt ∧ (n38 : Int32).toInt = (n2 : Int32).toInt ∧ (n37 : Int32).toInt = ((iv 1 8) : Int32).toInt + 1 ∧ NamR (fun j => ((fa 8 1) j).toInt) ((iv 8 2) : Int32).toInt (n4 : Int32).toInt 0 0 (n40 : Int32).toInt (n33 (12 * (((iv 1 7) : Int32).toInt).toNat + (((iv 1 8) : Int32).toInt).toNat)).toInt (n34 (12 * (((iv 1 7) : Int32).toInt).toNat + (((iv 1 8) : Int32).toInt).toNat)).toInt (n35 (12 * (((iv 1 7) : Int32).toInt).toNat + (((iv 1 8) : Int32).toInt).toNat)).toInt (fun j => (n36 ((8 * (12 * (((iv 1 7) : Int32).toInt).toNat + (((iv 1 8) : Int32).toInt).toNat)) + j)).toInt))) := xr32_0
        have xr32_1 : ∀ j : Nat, (j : Int) < 12 * ((iv 1 7) : Int32).toInt + ((iv 1 8) : Int32).toInt → n33 j = (fa 1 2) j ∧ n34 j = (fa 1 3) j ∧ n35 j = (fa 1 4) j := xr32_1
        have xr32_2 : ∀ j : Nat, (j : Int) < (8 * (12 * ((iv 1 7) : Int32).toInt + ((iv 1 8) : Int32).toInt)) → n36 j = (fa 1 5) j := xr32_2
        have hP9 : va_P (dC, dI) classes (WX h g ca (u2 (u2 (u2 (u2 iv 1 8 n37) 8 3 n38) 8 4 n39) 8 5 n40) lv (u2 (u2 (u2 (u2 fa 1 2 n33) 1 3 n34) 1 4 n35) 1 5 n36) la) H := hP
        have hD9 : va_D A (WX h g ca (u2 (u2 (u2 (u2 iv 1 8 n37) 8 3 n38) 8 4 n39) 8 5 n40) lv (u2 (u2 (u2 (u2 fa 1 2 n33) 1 3 n34) 1 4 n35) 1 5 n36) la) := hD
        exact W.zret (v := r32) hx hb hr (nar01 ⟨by omega, by omega⟩) (fun t ht9 hW => ⟨⟨r32, ((u2 (u2 (u2 (u2 iv 1 8 n37) 8 3 n38) 8 4 n39) 8 5 n40), lv, (u2 (u2 (u2 (u2 fa 1 2 n33) 1 3 n34) 1 4 n35) 1 5 n36), la), rfl, ⟨n33, n34, n35, n36, n37, n38, n39, n40, (show inb (0, 12) n37 from ⟨by omega, by omega⟩), (show inb ((-1), 200) n38 from ⟨by omega, by omega⟩), (show inb (0, 5) n39 from ⟨by omega, by omega⟩), (show inb (0, 200) n40 from ⟨by omega, by omega⟩), (show (((r32 : Int32).toInt = 0 ∧ 1 ≤ (n39 : Int32).toInt ∧ (n37 : Int32).toInt = (iv 1 8).toInt ∧ ∃ (b kd v1 v2 : Int) (wd : Nat → Int), ClR (fun j => ((fa 8 1) j).toInt) ((iv 8 2) : Int32).toInt (iv 1 7).toInt (iv 8 5).toInt (iv 1 8).toInt (n39 : Int32).toInt (n38 : Int32).toInt b kd v1 v2 wd) ∨ ((r32 : Int32).toInt = 1 ∧ (n39 : Int32).toInt = (iv 8 4).toInt ∧ (n38 : Int32).toInt = (iv 8 3).toInt ∧ (n37 : Int32).toInt = (iv 1 8).toInt + 1 ∧ (iv 1 8).toInt ≤ 11 ∧ ClR (fun j => ((fa 8 1) j).toInt) ((iv 8 2) : Int32).toInt (iv 1 7).toInt (iv 8 5).toInt (iv 1 8).toInt 0 0 (n40 : Int32).toInt (n33 (12 * ((iv 1 7).toInt).toNat + ((iv 1 8).toInt).toNat)).toInt (n34 (12 * ((iv 1 7).toInt).toNat + ((iv 1 8).toInt).toNat)).toInt (n35 (12 * ((iv 1 7).toInt).toNat + ((iv 1 8).toInt).toNat)).toInt (fun j => (n36 ((8 * (12 * ((iv 1 7).toInt).toNat + ((iv 1 8).toInt).toNat)) + j)).toInt))) from (by
              obtain ⟨s, e, k1, k2, k3⟩ := xr1_0
              have es := Sk_un (by omega) hs0 k1
              subst es
              rcases k3 with ⟨k4, -⟩ | ⟨k4, k5, k6, k7, k8⟩
              · exfalso; omega
              · have z9 : (2 : Int32).toInt = 2 := by decide
                rcases xr32_0 with ⟨p1, p2, p3, b, kd, v1, v2, wd, p4⟩ | ⟨p1, p2, p3, p4, p5⟩
                · rw [k8] at p4; exact Or.inl ⟨by omega, by omega, by omega, b, kd, v1, v2, wd, e, k2, Or.inr (Or.inr (Or.inr (Or.inr (Or.inl ⟨by omega, by omega, p4⟩))))⟩
                · rw [k8] at p5; exact Or.inr ⟨by omega, by omega, by omega, by omega, by omega, e, k2, Or.inr (Or.inr (Or.inr (Or.inr (Or.inl ⟨by omega, by omega, p5⟩))))⟩)), (show ∀ j : Nat, (j : Int) < 12 * (iv 1 7).toInt + (iv 1 8).toInt → n33 j = (fa 1 2) j ∧ n34 j = (fa 1 3) j ∧ n35 j = (fa 1 4) j from xr32_1), (show ∀ j : Nat, (j : Int) < (8 * (12 * (iv 1 7).toInt + (iv 1 8).toInt)) → n36 j = (fa 1 5) j from xr32_2), ⟨by omega, by omega⟩, rfl⟩, by rw [ht9]; exact hP9, hD9⟩, hS.F ht9⟩) hS.2.2 dX8_readClause_78
    · have fc6 := z_nlt (rfl : ((iv 1 8)).toInt = _) (by decide : (12 : Int32).toInt = 12) c6
      refine lv_aload_n hx hb dX8_readClause_31 rfl (lv_at hl 2 rfl) ?_
      refine lv_iconst (v := 5) hx hb dX8_readClause_32 (by decide) ?_
      refine lv_iload_n hx hb dX8_readClause_33 rfl (lv_at hl 1 rfl) ?_
      have hFc := free_all hD hS hA
      refine va_calli (va_runV (As := [.int 5, .int (iv 8 5)]) (rest := []) ⟨hx, hb, hml, hown, ht⟩ (c_X8_fail_r l dC dI H.size h g ca (u2 (u2 (u2 iv 8 3 n2) 8 4 n3) 8 5 n4) lv fa la (IX_i (c := 8) (k := 5) (IX_i (c := 8) (k := 4) (IX_i (c := 8) (k := 3) hI (show inb ((-1), 200) n2 from ⟨by omega, by omega⟩)) (show inb (0, 5) n3 from ⟨by omega, by omega⟩)) (show inb (0, 200) n4 from ⟨by omega, by omega⟩)) 5 (iv 8 5) ⟨by decide, by decide⟩ ⟨by omega, by omega⟩) (kV 2 ht m_757 m_759 m_21 m_82 m_760 rfl rfl hd_X8_fail_v ⟨Nat.le_of_ble_eq_true rfl, Nat.le_of_ble_eq_true rfl⟩) (vW hP hK hD (rX_8 hK hP)) rfl rfl hl.1 rfl (lv_room (Nat.le_of_ble_eq_true rfl)) dX8_readClause_34 ⟨Nat.le_of_ble_eq_true rfl, Nat.le_of_ble_eq_true rfl⟩) hS (fun q _ h => hFc q h) hFc (fun r41 u t H1 locs ht9 hvm hr41 hB hz1 hk1 hS => ?_)
      obtain ⟨n42, n43, hn42, hn43, xr41_0, xr41_1, hr41, rfl⟩ := hr41
      have hn42 : (-1) ≤ n42.toInt ∧ n42.toInt ≤ 200 := hn42
      have hn43 : 0 ≤ n43.toInt ∧ n43.toInt ≤ 5 := hn43
      obtain ⟨hP, hD⟩ := hB
      rw [ht9] at hP
      generalize H1 = H at hP hS ⊢
      have hP : va_P (dC, dI) classes (WX h g ca (u2 (u2 (u2 iv 8 3 n42) 8 4 n43) 8 5 n4) lv fa la) H := hP
      have hD : va_D A (WX h g ca (u2 (u2 (u2 iv 8 3 n42) 8 4 n43) 8 5 n4) lv fa la) := (show va_D _ (WX h g ca (u2 (u2 (u2 iv 8 3 n42) 8 4 n43) 8 5 n4) lv fa la) from hD).weaken (fun _ _ _ h => hFc _ h)
      have : (5 : Int32).toInt = 5 := (by decide)
      have xr41_0 : (n43 : Int32).toInt = (5 : Int32).toInt := xr41_0
      have xr41_1 : (n42 : Int32).toInt = ((iv 8 5) : Int32).toInt := xr41_1
      have hP9 : va_P (dC, dI) classes (WX h g ca (u2 (u2 (u2 (u2 iv 1 8 (iv 1 8)) 8 3 n42) 8 4 n43) 8 5 n4) lv (u2 (u2 (u2 (u2 fa 1 2 (fa 1 2)) 1 3 (fa 1 3)) 1 4 (fa 1 4)) 1 5 (fa 1 5)) la) H := hP
      have hD9 : va_D A (WX h g ca (u2 (u2 (u2 (u2 iv 1 8 (iv 1 8)) 8 3 n42) 8 4 n43) 8 5 n4) lv (u2 (u2 (u2 (u2 fa 1 2 (fa 1 2)) 1 3 (fa 1 3)) 1 4 (fa 1 4)) 1 5 (fa 1 5)) la) := hD
      exact W.zret (v := r41) hx hb hr (nar01 ⟨by omega, by omega⟩) (fun t ht9 hW => ⟨⟨r41, ((u2 (u2 (u2 (u2 iv 1 8 (iv 1 8)) 8 3 n42) 8 4 n43) 8 5 n4), lv, (u2 (u2 (u2 (u2 fa 1 2 (fa 1 2)) 1 3 (fa 1 3)) 1 4 (fa 1 4)) 1 5 (fa 1 5)), la), rfl, ⟨(fa 1 2), (fa 1 3), (fa 1 4), (fa 1 5), (iv 1 8), n42, n43, n4, (hI.1 1 8), (show inb ((-1), 200) n42 from ⟨by omega, by omega⟩), (show inb (0, 5) n43 from ⟨by omega, by omega⟩), (show inb (0, 200) n4 from ⟨by omega, by omega⟩), (show (((r41 : Int32).toInt = 0 ∧ 1 ≤ (n43 : Int32).toInt ∧ ((iv 1 8) : Int32).toInt = (iv 1 8).toInt ∧ ∃ (b kd v1 v2 : Int) (wd : Nat → Int), ClR (fun j => ((fa 8 1) j).toInt) ((iv 8 2) : Int32).toInt (iv 1 7).toInt (iv 8 5).toInt (iv 1 8).toInt (n43 : Int32).toInt (n42 : Int32).toInt b kd v1 v2 wd) ∨ ((r41 : Int32).toInt = 1 ∧ (n43 : Int32).toInt = (iv 8 4).toInt ∧ (n42 : Int32).toInt = (iv 8 3).toInt ∧ ((iv 1 8) : Int32).toInt = (iv 1 8).toInt + 1 ∧ (iv 1 8).toInt ≤ 11 ∧ ClR (fun j => ((fa 8 1) j).toInt) ((iv 8 2) : Int32).toInt (iv 1 7).toInt (iv 8 5).toInt (iv 1 8).toInt 0 0 (n4 : Int32).toInt ((fa 1 2) (12 * ((iv 1 7).toInt).toNat + ((iv 1 8).toInt).toNat)).toInt ((fa 1 3) (12 * ((iv 1 7).toInt).toNat + ((iv 1 8).toInt).toNat)).toInt ((fa 1 4) (12 * ((iv 1 7).toInt).toNat + ((iv 1 8).toInt).toNat)).toInt (fun j => ((fa 1 5) ((8 * (12 * ((iv 1 7).toInt).toNat + ((iv 1 8).toInt).toNat)) + j)).toInt))) from (by
            obtain ⟨s, e, k1, k2, k3⟩ := xr1_0
            have es := Sk_un (by omega) hs0 k1
            subst es
            rcases k3 with ⟨k4, -⟩ | ⟨k4, k5, k6, k7, k8⟩
            · exfalso; omega
            · exact Or.inl ⟨by omega, by omega, by omega, 0, 0, 0, 0, (fun _ => 0), e, k2, Or.inr (Or.inl ⟨by omega, by omega, by omega, by omega⟩)⟩)), (show ∀ j : Nat, (j : Int) < 12 * (iv 1 7).toInt + (iv 1 8).toInt → (fa 1 2) j = (fa 1 2) j ∧ (fa 1 3) j = (fa 1 3) j ∧ (fa 1 4) j = (fa 1 4) j from fun j hj => ⟨rfl, rfl, rfl⟩), (show ∀ j : Nat, (j : Int) < (8 * (12 * (iv 1 7).toInt + (iv 1 8).toInt)) → (fa 1 5) j = (fa 1 5) j from fun j hj => rfl), ⟨by omega, by omega⟩, rfl⟩, by rw [ht9]; exact hP9, hD9⟩, hS.F ht9⟩) hS.2.2 dX8_readClause_37
  · have fc5 := z_eq (rfl : (r1).toInt = _) (by decide : ((-1) : Int32).toInt = (-1)) c5
    refine lv_iconst (v := 0) hx hb dX8_readClause_17 (by decide) ?_
    have : (0 : Int32).toInt = 0 := (by decide)
    have i_1_8 : 0 ≤ (iv 1 8).toInt ∧ (iv 1 8).toInt ≤ 12 := hI.1 1 8
    have hP9 : va_P (dC, dI) classes (WX h g ca (u2 (u2 (u2 (u2 iv 1 8 (iv 1 8)) 8 3 n2) 8 4 n3) 8 5 n4) lv (u2 (u2 (u2 (u2 fa 1 2 (fa 1 2)) 1 3 (fa 1 3)) 1 4 (fa 1 4)) 1 5 (fa 1 5)) la) H := hP
    have hD9 : va_D A (WX h g ca (u2 (u2 (u2 (u2 iv 1 8 (iv 1 8)) 8 3 n2) 8 4 n3) 8 5 n4) lv (u2 (u2 (u2 (u2 fa 1 2 (fa 1 2)) 1 3 (fa 1 3)) 1 4 (fa 1 4)) 1 5 (fa 1 5)) la) := hD
    exact W.zret (v := 0) hx hb hr rfl (fun t ht9 hW => ⟨⟨0, ((u2 (u2 (u2 (u2 iv 1 8 (iv 1 8)) 8 3 n2) 8 4 n3) 8 5 n4), lv, (u2 (u2 (u2 (u2 fa 1 2 (fa 1 2)) 1 3 (fa 1 3)) 1 4 (fa 1 4)) 1 5 (fa 1 5)), la), rfl, ⟨(fa 1 2), (fa 1 3), (fa 1 4), (fa 1 5), (iv 1 8), n2, n3, n4, (hI.1 1 8), (show inb ((-1), 200) n2 from ⟨by omega, by omega⟩), (show inb (0, 5) n3 from ⟨by omega, by omega⟩), (show inb (0, 200) n4 from ⟨by omega, by omega⟩), (show (((0 : Int32).toInt = 0 ∧ 1 ≤ (n3 : Int32).toInt ∧ ((iv 1 8) : Int32).toInt = (iv 1 8).toInt ∧ ∃ (b kd v1 v2 : Int) (wd : Nat → Int), ClR (fun j => ((fa 8 1) j).toInt) ((iv 8 2) : Int32).toInt (iv 1 7).toInt (iv 8 5).toInt (iv 1 8).toInt (n3 : Int32).toInt (n2 : Int32).toInt b kd v1 v2 wd) ∨ ((0 : Int32).toInt = 1 ∧ (n3 : Int32).toInt = (iv 8 4).toInt ∧ (n2 : Int32).toInt = (iv 8 3).toInt ∧ ((iv 1 8) : Int32).toInt = (iv 1 8).toInt + 1 ∧ (iv 1 8).toInt ≤ 11 ∧ ClR (fun j => ((fa 8 1) j).toInt) ((iv 8 2) : Int32).toInt (iv 1 7).toInt (iv 8 5).toInt (iv 1 8).toInt 0 0 (n4 : Int32).toInt ((fa 1 2) (12 * ((iv 1 7).toInt).toNat + ((iv 1 8).toInt).toNat)).toInt ((fa 1 3) (12 * ((iv 1 7).toInt).toNat + ((iv 1 8).toInt).toNat)).toInt ((fa 1 4) (12 * ((iv 1 7).toInt).toNat + ((iv 1 8).toInt).toNat)).toInt (fun j => ((fa 1 5) ((8 * (12 * ((iv 1 7).toInt).toNat + ((iv 1 8).toInt).toNat)) + j)).toInt))) from (by
          obtain ⟨s, e, k1, k2, k3⟩ := xr1_0
          have es := Sk_un (by omega) hs0 k1
          subst es
          rcases k3 with ⟨k4, k5, k6, k7⟩ | ⟨k4, -⟩
          · exact Or.inl ⟨by omega, by omega, by omega, 0, 0, 0, 0, (fun _ => 0), e, k2, Or.inl ⟨k5, k6, k7⟩⟩
          · exfalso; omega)), (show ∀ j : Nat, (j : Int) < 12 * (iv 1 7).toInt + (iv 1 8).toInt → (fa 1 2) j = (fa 1 2) j ∧ (fa 1 3) j = (fa 1 3) j ∧ (fa 1 4) j = (fa 1 4) j from fun j hj => ⟨rfl, rfl, rfl⟩), (show ∀ j : Nat, (j : Int) < (8 * (12 * (iv 1 7).toInt + (iv 1 8).toInt)) → (fa 1 5) j = (fa 1 5) j from fun j hj => rfl), ⟨by decide, by decide⟩, rfl⟩, by rw [ht9]; exact hP9, hD9⟩, hS.F ht9⟩) hS.2.2 dX8_readClause_18
/-! ===== rd7 ===== -/
set_option maxHeartbeats 4000000 in
set_option maxRecDepth 100000 in
/-- X8_read -/
theorem c_X8_read_r (l : Launch) (dC : Nat → ClassId) (dI : Nat → Nat → Nat) (sz : Nat) (ak av : Nat → Nat) (h : Nat) (g : Nat → Nat → Nat) (ca : Nat → Nat → ClassId) (iv : Nat → Nat → Int32) (lv : Nat → Nat → Int64) (fa : Nat → Nat → Nat → Int32) (la : Nat → Nat → Nat → Int64) (hI : IX iv fa) (q_1_7 : 0 ≤ (iv 1 7).toInt ∧ (iv 1 7).toInt ≤ 7) : Met l yX8_read (wc yX8_read cX8_read 3 (some .int)) ({ frames := 8, cells := 0, slots := 0, locals := 179 } : Room) (pWZ ak av (dC, dI) classes (WX h g ca iv lv fa la) (TX ca) sz [.ref (g 11 4)]) (va_Qi (fun r (u : SS) => ∃ (na_1_2 : Nat → Int32) (na_1_3 : Nat → Int32) (na_1_4 : Nat → Int32) (na_1_5 : Nat → Int32) (ni_1_8 : Int32) (ni_8_2 : Int32) (ni_8_3 : Int32) (ni_8_4 : Int32) (ni_8_5 : Int32), inb (bI 1 8) ni_1_8 ∧ inb (bI 8 2) ni_8_2 ∧ inb (bI 8 3) ni_8_3 ∧ inb (bI 8 4) ni_8_4 ∧ inb (bI 8 5) ni_8_5 ∧ (Out (fun j => ((fa 8 1) j).toInt) (iv 8 2).toInt (iv 1 7).toInt (ni_8_4).toInt (ni_8_3).toInt ((ni_1_8).toInt).toNat (fun i => (na_1_2 (12 * ((iv 1 7).toInt).toNat + i)).toInt) (fun i => (na_1_3 (12 * ((iv 1 7).toInt).toNat + i)).toInt) (fun i => (na_1_4 (12 * ((iv 1 7).toInt).toNat + i)).toInt) (fun i j => (na_1_5 (8 * (12 * ((iv 1 7).toInt).toNat + i) + j)).toInt)) ∧ (((ni_8_4).toInt ≠ 0 ∨ (ni_8_3).toInt = -1)) ∧ (r.toInt = (ni_8_4).toInt) ∧ ((ni_8_2).toInt = 0) ∧ (∀ j : Nat, (j : Int) < 12 * (iv 1 7).toInt → na_1_2 j = (fa 1 2) j ∧ na_1_3 j = (fa 1 3) j ∧ na_1_4 j = (fa 1 4) j) ∧ (∀ j : Nat, (j : Int) < 96 * (iv 1 7).toInt → na_1_5 j = (fa 1 5) j) ∧ (0 ≤ r.toInt ∧ r.toInt ≤ 5) ∧ u = ((u2 (u2 (u2 (u2 (u2 iv 1 8 ni_1_8) 8 2 ni_8_2) 8 3 ni_8_3) 8 4 ni_8_4) 8 5 ni_8_5), lv, (u2 (u2 (u2 (u2 fa 1 2 na_1_2) 1 3 na_1_3) 1 4 na_1_4) 1 5 na_1_5), la)) (bX (dC, dI) h g ca (va_A (WX h g ca iv lv fa la) sz)) (va_A (WX h g ca iv lv fa la) sz)) 0 0 (va_A (WX h g ca iv lv fa la) sz) := by
  refine Met.ofW (cc := cX8_read) (maxL := 3) (ret := (some .int)) (by decide) rfl ?_
  intro p e s m args below meth c s₁ B hml hv
  obtain ⟨rfl, hsz, hP, hK, hD0, hZ⟩ := hv
  have hx := B.exec
  have hb := B.bytes
  have hr := B.returns
  have ht := tb_tl (atoms_spec (ws := wc yX8_read cX8_read 3 (some .int)) B.pre)
  have hown : s.vm.findClass RX8 = some m.cls := findClass_of_methodNamed B.named
  have hlocks := B.notSynchronized
  subst hsz
  have hD := hD0.self (sz := s.heap.size)
  generalize hAe : va_A (WX h g ca iv lv fa la) s.heap.size = A at hD hZ ⊢
  have hA : ∀ q : Nat, s.heap.size ≤ q → A q := fun q h => by rw [← hAe]; exact Or.inr h
  have hS : va_S A s.heap s.heap [] := va_S.rf
  have hl := lv_entry [.ref (g 11 4)] (n := 3) (Nat.le_of_ble_eq_true rfl)
  rw [lg_entry_eq]
  generalize (lg_sl [.ref (g 11 4)] ++ List.replicate (3 - (lg_sl [.ref (g 11 4)]).length) Slot.unset).toArray = ls at hl ⊢
  have hl : lv_has ls 3 [(0, .ref (g 11 4))] := hl
  refine lv_aload_n hx hb dX8_read_0 rfl (lv_at hl 0 rfl) ?_
  refine lv_iconst (v := 0) hx hb dX8_read_1 (by decide) ?_
  refine pX_8_5 (v := 0) hx hb ht hown hK hP hD hS m_235 dX8_read_2 (fun H locs hP hD hS => ?_)
  refine lv_aload_n hx hb dX8_read_5 rfl (lv_at hl 0 rfl) ?_
  refine lv_iconst (v := 0) hx hb dX8_read_6 (by decide) ?_
  refine pX_8_4 (v := 0) hx hb ht hown hK hP hD hS m_234 dX8_read_7 (fun H locs hP hD hS => ?_)
  refine lv_aload_n hx hb dX8_read_10 rfl (lv_at hl 0 rfl) ?_
  refine lv_iconst (v := (-1)) hx hb dX8_read_11 (by decide) ?_
  refine pX_8_3 (v := (-1)) hx hb ht hown hK hP hD hS m_232 dX8_read_12 (fun H locs hP hD hS => ?_)
  refine lv_aload_n hx hb dX8_read_15 rfl (lv_at hl 0 rfl) ?_
  refine gX_8_0 hx hb ht hown hK hP m_228 dX8_read_16 ?_
  have hFc := free_all hD hS hA
  refine va_callv (va_runV (As := []) (rest := []) ⟨hx, hb, hml, hown, ht⟩ (c_X1_startDraft_r l dC dI H.size h g ca (u2 (u2 (u2 iv 8 5 0) 8 4 0) 8 3 (-1)) lv fa la (IX_i (c := 8) (k := 3) (IX_i (c := 8) (k := 4) (IX_i (c := 8) (k := 5) hI (show inb (0, 200) 0 from ⟨by decide, by decide⟩)) (show inb (0, 5) 0 from ⟨by decide, by decide⟩)) (show inb ((-1), 200) (-1) from ⟨by decide, by decide⟩))) (kV 0 ht m_684 m_685 m_686 m_81 m_687 rfl rfl hd_X1_startDraft_v ⟨Nat.le_of_ble_eq_true rfl, Nat.le_of_ble_eq_true rfl⟩) (vW hP hK hD (rX_1 hK hP)) rfl rfl hl.1 rfl (lv_room (Nat.le_of_ble_eq_true rfl)) dX8_read_19 ⟨Nat.le_of_ble_eq_true rfl, Nat.le_of_ble_eq_true rfl⟩) hS (fun q _ h => hFc q h) hFc (fun u t H1 locs ht9 hvm hr1 hB hz1 hk1 hS => ?_)
  obtain ⟨n2, hn2, xr1_0, rfl⟩ := hr1
  have hn2 : 0 ≤ n2.toInt ∧ n2.toInt ≤ 12 := hn2
  obtain ⟨hP, hD⟩ := hB
  rw [ht9] at hP
  generalize H1 = H at hP hS ⊢
  have hP : va_P (dC, dI) classes (WX h g ca (u2 (u2 (u2 (u2 iv 8 5 0) 8 4 0) 8 3 (-1)) 1 8 n2) lv fa la) H := hP
  have hD : va_D A (WX h g ca (u2 (u2 (u2 (u2 iv 8 5 0) 8 4 0) 8 3 (-1)) 1 8 n2) lv fa la) := (show va_D _ (WX h g ca (u2 (u2 (u2 (u2 iv 8 5 0) 8 4 0) 8 3 (-1)) 1 8 n2) lv fa la) from hD).weaken (fun _ _ _ h => hFc _ h)
  have xr1_0 : (n2 : Int32).toInt = 0 := xr1_0
  refine lv_aload_n hx hb dX8_read_22 rfl (lv_at hl 0 rfl) ?_
  have hFc := free_all hD hS hA
  refine va_calli (va_runV (As := []) (rest := []) ⟨hx, hb, hml, hown, ht⟩ (c_X8_skipBlanks_r l dC dI H.size h g ca (u2 (u2 (u2 (u2 iv 8 5 0) 8 4 0) 8 3 (-1)) 1 8 n2) lv fa la (IX_i (c := 1) (k := 8) (IX_i (c := 8) (k := 3) (IX_i (c := 8) (k := 4) (IX_i (c := 8) (k := 5) hI (show inb (0, 200) 0 from ⟨by decide, by decide⟩)) (show inb (0, 5) 0 from ⟨by decide, by decide⟩)) (show inb ((-1), 200) (-1) from ⟨by decide, by decide⟩)) (show inb (0, 12) n2 from ⟨by omega, by omega⟩))) (kV 0 ht m_688 m_690 m_16 m_82 m_691 rfl rfl hd_X8_skipBlanks_v ⟨Nat.le_of_ble_eq_true rfl, Nat.le_of_ble_eq_true rfl⟩) (vW hP hK hD (rX_8 hK hP)) rfl rfl hl.1 rfl (lv_room (Nat.le_of_ble_eq_true rfl)) dX8_read_23 ⟨Nat.le_of_ble_eq_true rfl, Nat.le_of_ble_eq_true rfl⟩) hS (fun q _ h => hFc q h) hFc (fun r3 u t H1 locs ht9 hvm hr3 hB hz1 hk1 hS => ?_)
  obtain ⟨n4, hn4, xr3_0, xr3_1, hr3, rfl⟩ := hr3
  have hn4 : 0 ≤ n4.toInt ∧ n4.toInt ≤ 200 := hn4
  obtain ⟨hP, hD⟩ := hB
  rw [ht9] at hP
  generalize H1 = H at hP hS ⊢
  have hP : va_P (dC, dI) classes (WX h g ca (u2 (u2 (u2 (u2 iv 8 5 n4) 8 4 0) 8 3 (-1)) 1 8 n2) lv fa la) H := hP
  have hD : va_D A (WX h g ca (u2 (u2 (u2 (u2 iv 8 5 n4) 8 4 0) 8 3 (-1)) 1 8 n2) lv fa la) := (show va_D _ (WX h g ca (u2 (u2 (u2 (u2 iv 8 5 n4) 8 4 0) 8 3 (-1)) 1 8 n2) lv fa la) from hD).weaken (fun _ _ _ h => hFc _ h)
  have i_8_2 : 0 ≤ (iv 8 2).toInt ∧ (iv 8 2).toInt ≤ 200 := hI.1 8 2
  have : (0 : Int32).toInt = 0 := (by decide)
  have xr3_0 : Sk (fun j => ((fa 8 1) j).toInt) ((iv 8 2) : Int32).toInt (0 : Int32).toInt (n4 : Int32).toInt := xr3_0
  have xr3_1 : (((r3 : Int32).toInt = 1 ∧ (n4 : Int32).toInt < ((iv 8 2) : Int32).toInt) ∨ ((r3 : Int32).toInt = 0 ∧ ((iv 8 2) : Int32).toInt ≤ (n4 : Int32).toInt)) := xr3_1
  refine lv_istore_n (lv' := [(1, .int r3), (0, .ref (g 11 4))]) hx hb dX8_read_26 rfl hl (by decide) rfl (fun ls hl => ?_)
  refine lv_iconst (v := 0) hx hb dX8_read_27 (by decide) ?_
  refine lv_istore_n (lv' := [(2, .int 0), (1, .int r3), (0, .ref (g 11 4))]) hx hb dX8_read_28 rfl hl (by decide) rfl (fun ls hl => ?_)
  have lp272 : ∀ (nn272 : Nat) (x271_2 : Int32) (x271_1 : Int32) (w271_i_8_5 : Int32) (w271_i_8_4 : Int32) (w271_i_8_3 : Int32) (w271_i_1_8 : Int32) (w271_a_1_2 : Nat → Int32) (w271_a_1_3 : Nat → Int32) (w271_a_1_4 : Nat → Int32) (w271_a_1_5 : Nat → Int32), 0 ≤ x271_2.toInt ∧ x271_2.toInt ≤ 13 → 0 ≤ x271_1.toInt ∧ x271_1.toInt ≤ 1 → 0 ≤ w271_i_8_5.toInt ∧ w271_i_8_5.toInt ≤ 200 → 0 ≤ w271_i_8_4.toInt ∧ w271_i_8_4.toInt ≤ 5 → (-1) ≤ w271_i_8_3.toInt ∧ w271_i_8_3.toInt ≤ 200 → 0 ≤ w271_i_1_8.toInt ∧ w271_i_1_8.toInt ≤ 12 → (∀ j, inb (bA 1 2 j) (w271_a_1_2 j)) → (∀ j, inb (bA 1 3 j) (w271_a_1_3 j)) → (∀ j, inb (bA 1 4 j) (w271_a_1_4 j)) → (∀ j, inb (bA 1 5 j) (w271_a_1_5 j)) → ((((x271_1 : Int32).toInt = 1 ∧ (w271_i_1_8 : Int32).toInt = (x271_2 : Int32).toInt ∧ (w271_i_8_4 : Int32).toInt = 0 ∧ (w271_i_8_3 : Int32).toInt = -1 ∧ ∃ a : Int, Pf (fun j => ((fa 8 1) j).toInt) ((iv 8 2) : Int32).toInt (iv 1 7).toInt (fun i => (w271_a_1_2 (12 * ((iv 1 7).toInt).toNat + i)).toInt) (fun i => (w271_a_1_3 (12 * ((iv 1 7).toInt).toNat + i)).toInt) (fun i => (w271_a_1_4 (12 * ((iv 1 7).toInt).toNat + i)).toInt) (fun i j => (w271_a_1_5 (8 * (12 * ((iv 1 7).toInt).toNat + i) + j)).toInt) ((w271_i_1_8 : Int32).toInt).toNat a ∧ Sk (fun j => ((fa 8 1) j).toInt) ((iv 8 2) : Int32).toInt a (w271_i_8_5 : Int32).toInt ∧ (w271_i_8_5 : Int32).toInt < ((iv 8 2) : Int32).toInt) ∨ ((x271_1 : Int32).toInt = 0 ∧ ((w271_i_8_4 : Int32).toInt ≠ 0 ∨ (w271_i_8_3 : Int32).toInt = -1) ∧ Out (fun j => ((fa 8 1) j).toInt) (iv 8 2).toInt (iv 1 7).toInt (w271_i_8_4 : Int32).toInt (w271_i_8_3 : Int32).toInt ((w271_i_1_8 : Int32).toInt).toNat (fun i => (w271_a_1_2 (12 * ((iv 1 7).toInt).toNat + i)).toInt) (fun i => (w271_a_1_3 (12 * ((iv 1 7).toInt).toNat + i)).toInt) (fun i => (w271_a_1_4 (12 * ((iv 1 7).toInt).toNat + i)).toInt) (fun i j => (w271_a_1_5 (8 * (12 * ((iv 1 7).toInt).toNat + i) + j)).toInt)))) → (∀ j : Nat, (j : Int) < 12 * (iv 1 7).toInt → w271_a_1_2 j = (fa 1 2) j ∧ w271_a_1_3 j = (fa 1 3) j ∧ w271_a_1_4 j = (fa 1 4) j) → (∀ j : Nat, (j : Int) < 96 * (iv 1 7).toInt → w271_a_1_5 j = (fa 1 5) j) → (x271_2 : Int32).toInt ≤ 13 → 0 ≤ (x271_2 : Int32).toInt → 13 - x271_2.toInt < (nn272 : Int) → ∀ (H : Heap) (locs : List Loc), ∀ (ls : Array Slot), va_P (dC, dI) classes (WX h g ca (u2 (u2 (u2 (u2 iv 8 5 w271_i_8_5) 8 4 w271_i_8_4) 8 3 w271_i_8_3) 1 8 w271_i_1_8) lv (u2 (u2 (u2 (u2 fa 1 2 w271_a_1_2) 1 3 w271_a_1_3) 1 4 w271_a_1_4) 1 5 w271_a_1_5) la) H → va_D A (WX h g ca (u2 (u2 (u2 (u2 iv 8 5 w271_i_8_5) 8 4 w271_i_8_4) 8 3 w271_i_8_3) 1 8 w271_i_1_8) lv (u2 (u2 (u2 (u2 fa 1 2 w271_a_1_2) 1 3 w271_a_1_3) 1 4 w271_a_1_4) 1 5 w271_a_1_5) la) → va_S A s.heap H locs → lv_has ls 3 [(2, .int x271_2), (1, .int x271_1), (0, .ref (g 11 4))] → W p l e ({ frames := 8, cells := 0, slots := 0, locals := 179 } : Room) s m ([.ref (g 11 4)] : List Value).toArray below meth c H locs 0 0 (MQ below (va_Qi (fun r (u : SS) => ∃ (na_1_2 : Nat → Int32) (na_1_3 : Nat → Int32) (na_1_4 : Nat → Int32) (na_1_5 : Nat → Int32) (ni_1_8 : Int32) (ni_8_2 : Int32) (ni_8_3 : Int32) (ni_8_4 : Int32) (ni_8_5 : Int32), inb (bI 1 8) ni_1_8 ∧ inb (bI 8 2) ni_8_2 ∧ inb (bI 8 3) ni_8_3 ∧ inb (bI 8 4) ni_8_4 ∧ inb (bI 8 5) ni_8_5 ∧ (Out (fun j => ((fa 8 1) j).toInt) (iv 8 2).toInt (iv 1 7).toInt (ni_8_4).toInt (ni_8_3).toInt ((ni_1_8).toInt).toNat (fun i => (na_1_2 (12 * ((iv 1 7).toInt).toNat + i)).toInt) (fun i => (na_1_3 (12 * ((iv 1 7).toInt).toNat + i)).toInt) (fun i => (na_1_4 (12 * ((iv 1 7).toInt).toNat + i)).toInt) (fun i j => (na_1_5 (8 * (12 * ((iv 1 7).toInt).toNat + i) + j)).toInt)) ∧ (((ni_8_4).toInt ≠ 0 ∨ (ni_8_3).toInt = -1)) ∧ (r.toInt = (ni_8_4).toInt) ∧ ((ni_8_2).toInt = 0) ∧ (∀ j : Nat, (j : Int) < 12 * (iv 1 7).toInt → na_1_2 j = (fa 1 2) j ∧ na_1_3 j = (fa 1 3) j ∧ na_1_4 j = (fa 1 4) j) ∧ (∀ j : Nat, (j : Int) < 96 * (iv 1 7).toInt → na_1_5 j = (fa 1 5) j) ∧ (0 ≤ r.toInt ∧ r.toInt ≤ 5) ∧ u = ((u2 (u2 (u2 (u2 (u2 iv 1 8 ni_1_8) 8 2 ni_8_2) 8 3 ni_8_3) 8 4 ni_8_4) 8 5 ni_8_5), lv, (u2 (u2 (u2 (u2 fa 1 2 na_1_2) 1 3 na_1_3) 1 4 na_1_4) 1 5 na_1_5), la)) (bX (dC, dI) h g ca A) A) ([.ref (g 11 4)] : List Value).toArray s 0 0 A) (F0 m 29 ls []) := by
    intro nn272
    induction nn272 with
    | zero => intro x271_2 x271_1 w271_i_8_5 w271_i_8_4 w271_i_8_3 w271_i_1_8 w271_a_1_2 w271_a_1_3 w271_a_1_4 w271_a_1_5 hx271_2 hx271_1 hw271_i_8_5 hw271_i_8_4 hw271_i_8_3 hw271_i_1_8 hw271_a_1_2 hw271_a_1_3 hw271_a_1_4 hw271_a_1_5 hq272_0 hq272_1 hq272_2 hq272_3 hq272_4 hm272; exfalso; omega
    | succ nn272 ih272 =>
      intro x271_2 x271_1 w271_i_8_5 w271_i_8_4 w271_i_8_3 w271_i_1_8 w271_a_1_2 w271_a_1_3 w271_a_1_4 w271_a_1_5 hx271_2 hx271_1 hw271_i_8_5 hw271_i_8_4 hw271_i_8_3 hw271_i_1_8 hw271_a_1_2 hw271_a_1_3 hw271_a_1_4 hw271_a_1_5 hq272_0 hq272_1 hq272_2 hq272_3 hq272_4 hm272 H locs ls hP hD hS hl
      refine lv_iload_n hx hb dX8_read_29 rfl (lv_at hl 1 rfl) ?_
      refine lv_if_eq (tgt := 65) hx hb dX8_read_30 (by decide) (fun c273 => ?_) (fun c273 => ?_)
      · have fc273 := z_eq (rfl : (x271_1).toInt = _) (by decide : (0 : Int32).toInt = 0) c273
        refine lv_aload_n hx hb dX8_read_65 rfl (lv_at hl 2 rfl) ?_
        refine lv_iconst (v := 0) hx hb dX8_read_66 (by decide) ?_
        refine pX_8_2 (v := 0) hx hb ht hown hK hP hD hS m_230 dX8_read_67 (fun H locs hP hD hS => ?_)
        refine lv_aload_n hx hb dX8_read_70 rfl (lv_at hl 2 rfl) ?_
        refine gX_8_4 hx hb ht hown hK hP m_234 (v := w271_i_8_4) rfl dX8_read_71 ?_
        have hP9 : va_P (dC, dI) classes (WX h g ca (u2 (u2 (u2 (u2 (u2 iv 1 8 w271_i_1_8) 8 2 0) 8 3 w271_i_8_3) 8 4 w271_i_8_4) 8 5 w271_i_8_5) lv (u2 (u2 (u2 (u2 fa 1 2 w271_a_1_2) 1 3 w271_a_1_3) 1 4 w271_a_1_4) 1 5 w271_a_1_5) la) H := hP
        have hD9 : va_D A (WX h g ca (u2 (u2 (u2 (u2 (u2 iv 1 8 w271_i_1_8) 8 2 0) 8 3 w271_i_8_3) 8 4 w271_i_8_4) 8 5 w271_i_8_5) lv (u2 (u2 (u2 (u2 fa 1 2 w271_a_1_2) 1 3 w271_a_1_3) 1 4 w271_a_1_4) 1 5 w271_a_1_5) la) := hD
        exact W.iret (v := w271_i_8_4) hx hb hr (fun t ht9 hW => ⟨⟨w271_i_8_4, ((u2 (u2 (u2 (u2 (u2 iv 1 8 w271_i_1_8) 8 2 0) 8 3 w271_i_8_3) 8 4 w271_i_8_4) 8 5 w271_i_8_5), lv, (u2 (u2 (u2 (u2 fa 1 2 w271_a_1_2) 1 3 w271_a_1_3) 1 4 w271_a_1_4) 1 5 w271_a_1_5), la), rfl, ⟨w271_a_1_2, w271_a_1_3, w271_a_1_4, w271_a_1_5, w271_i_1_8, 0, w271_i_8_3, w271_i_8_4, w271_i_8_5, (show inb (0, 12) w271_i_1_8 from ⟨by omega, by omega⟩), (show inb (0, 200) 0 from ⟨by decide, by decide⟩), (show inb ((-1), 200) w271_i_8_3 from ⟨by omega, by omega⟩), (show inb (0, 5) w271_i_8_4 from ⟨by omega, by omega⟩), (show inb (0, 200) w271_i_8_5 from ⟨by omega, by omega⟩), (show Out (fun j => ((fa 8 1) j).toInt) (iv 8 2).toInt (iv 1 7).toInt (w271_i_8_4 : Int32).toInt (w271_i_8_3 : Int32).toInt ((w271_i_1_8 : Int32).toInt).toNat (fun i => (w271_a_1_2 (12 * ((iv 1 7).toInt).toNat + i)).toInt) (fun i => (w271_a_1_3 (12 * ((iv 1 7).toInt).toNat + i)).toInt) (fun i => (w271_a_1_4 (12 * ((iv 1 7).toInt).toNat + i)).toInt) (fun i j => (w271_a_1_5 (8 * (12 * ((iv 1 7).toInt).toNat + i) + j)).toInt) from (by
              rcases hq272_0 with ⟨i1, i2, -⟩ | ⟨i1, i2, i3⟩
              · exfalso; omega
              · exact i3)), (show ((w271_i_8_4 : Int32).toInt ≠ 0 ∨ (w271_i_8_3 : Int32).toInt = -1) from (by
              rcases hq272_0 with ⟨i1, i2, -⟩ | ⟨i1, i2, i3⟩
              · exfalso; omega
              · exact i2)), (show (w271_i_8_4 : Int32).toInt = (w271_i_8_4 : Int32).toInt from by omega), (show (0 : Int32).toInt = 0 from by omega), (show ∀ j : Nat, (j : Int) < 12 * (iv 1 7).toInt → w271_a_1_2 j = (fa 1 2) j ∧ w271_a_1_3 j = (fa 1 3) j ∧ w271_a_1_4 j = (fa 1 4) j from hq272_1), (show ∀ j : Nat, (j : Int) < 96 * (iv 1 7).toInt → w271_a_1_5 j = (fa 1 5) j from hq272_2), ⟨by omega, by omega⟩, rfl⟩, by rw [ht9]; exact hP9, hD9⟩, hS.F ht9⟩) hS.2.2 dX8_read_74
      · have fc273 := z_ne (rfl : (x271_1).toInt = _) (by decide : (0 : Int32).toInt = 0) c273
        refine lv_iload_n hx hb dX8_read_33 rfl (lv_at hl 0 rfl) ?_
        refine lv_bipush (v := 12) hx hb dX8_read_34 (by decide) ?_
        refine lv_icmp_gt (tgt := 65) hx hb dX8_read_36 (by decide) (fun c274 => ?_) (fun c274 => ?_)
        · have fc274 := z_lt (by decide : (12 : Int32).toInt = 12) (rfl : (x271_2).toInt = _) c274
          refine lv_aload_n hx hb dX8_read_65 rfl (lv_at hl 2 rfl) ?_
          refine lv_iconst (v := 0) hx hb dX8_read_66 (by decide) ?_
          refine pX_8_2 (v := 0) hx hb ht hown hK hP hD hS m_230 dX8_read_67 (fun H locs hP hD hS => ?_)
          refine lv_aload_n hx hb dX8_read_70 rfl (lv_at hl 2 rfl) ?_
          refine gX_8_4 hx hb ht hown hK hP m_234 (v := w271_i_8_4) rfl dX8_read_71 ?_
          have hP9 : va_P (dC, dI) classes (WX h g ca (u2 (u2 (u2 (u2 (u2 iv 1 8 w271_i_1_8) 8 2 0) 8 3 w271_i_8_3) 8 4 w271_i_8_4) 8 5 w271_i_8_5) lv (u2 (u2 (u2 (u2 fa 1 2 w271_a_1_2) 1 3 w271_a_1_3) 1 4 w271_a_1_4) 1 5 w271_a_1_5) la) H := hP
          have hD9 : va_D A (WX h g ca (u2 (u2 (u2 (u2 (u2 iv 1 8 w271_i_1_8) 8 2 0) 8 3 w271_i_8_3) 8 4 w271_i_8_4) 8 5 w271_i_8_5) lv (u2 (u2 (u2 (u2 fa 1 2 w271_a_1_2) 1 3 w271_a_1_3) 1 4 w271_a_1_4) 1 5 w271_a_1_5) la) := hD
          exact W.iret (v := w271_i_8_4) hx hb hr (fun t ht9 hW => ⟨⟨w271_i_8_4, ((u2 (u2 (u2 (u2 (u2 iv 1 8 w271_i_1_8) 8 2 0) 8 3 w271_i_8_3) 8 4 w271_i_8_4) 8 5 w271_i_8_5), lv, (u2 (u2 (u2 (u2 fa 1 2 w271_a_1_2) 1 3 w271_a_1_3) 1 4 w271_a_1_4) 1 5 w271_a_1_5), la), rfl, ⟨w271_a_1_2, w271_a_1_3, w271_a_1_4, w271_a_1_5, w271_i_1_8, 0, w271_i_8_3, w271_i_8_4, w271_i_8_5, (show inb (0, 12) w271_i_1_8 from ⟨by omega, by omega⟩), (show inb (0, 200) 0 from ⟨by decide, by decide⟩), (show inb ((-1), 200) w271_i_8_3 from ⟨by omega, by omega⟩), (show inb (0, 5) w271_i_8_4 from ⟨by omega, by omega⟩), (show inb (0, 200) w271_i_8_5 from ⟨by omega, by omega⟩), (show Out (fun j => ((fa 8 1) j).toInt) (iv 8 2).toInt (iv 1 7).toInt (w271_i_8_4 : Int32).toInt (w271_i_8_3 : Int32).toInt ((w271_i_1_8 : Int32).toInt).toNat (fun i => (w271_a_1_2 (12 * ((iv 1 7).toInt).toNat + i)).toInt) (fun i => (w271_a_1_3 (12 * ((iv 1 7).toInt).toNat + i)).toInt) (fun i => (w271_a_1_4 (12 * ((iv 1 7).toInt).toNat + i)).toInt) (fun i j => (w271_a_1_5 (8 * (12 * ((iv 1 7).toInt).toNat + i) + j)).toInt) from (by
                rcases hq272_0 with ⟨i1, i2, -⟩ | ⟨i1, i2, i3⟩
                · exfalso; omega
                · exact i3)), (show ((w271_i_8_4 : Int32).toInt ≠ 0 ∨ (w271_i_8_3 : Int32).toInt = -1) from (by
                rcases hq272_0 with ⟨i1, i2, -⟩ | ⟨i1, i2, i3⟩
                · exfalso; omega
                · exact i2)), (show (w271_i_8_4 : Int32).toInt = (w271_i_8_4 : Int32).toInt from by omega), (show (0 : Int32).toInt = 0 from by omega), (show ∀ j : Nat, (j : Int) < 12 * (iv 1 7).toInt → w271_a_1_2 j = (fa 1 2) j ∧ w271_a_1_3 j = (fa 1 3) j ∧ w271_a_1_4 j = (fa 1 4) j from hq272_1), (show ∀ j : Nat, (j : Int) < 96 * (iv 1 7).toInt → w271_a_1_5 j = (fa 1 5) j from hq272_2), ⟨by omega, by omega⟩, rfl⟩, by rw [ht9]; exact hP9, hD9⟩, hS.F ht9⟩) hS.2.2 dX8_read_74
        · have fc274 := z_nlt (by decide : (12 : Int32).toInt = 12) (rfl : (x271_2).toInt = _) c274
          refine lv_aload_n hx hb dX8_read_39 rfl (lv_at hl 2 rfl) ?_
          have hs9 : Sk (fun j => (fa 8 1 j).toInt) (iv 8 2).toInt (w271_i_8_5 : Int32).toInt (w271_i_8_5 : Int32).toInt := by
            rcases hq272_0 with ⟨i1, i2, i3, i4, a, i5, i6, i7⟩ | ⟨i1, -⟩
            · exact Sk_id i6
            · exfalso; omega
          have i_1_7 : 0 ≤ (iv 1 7).toInt ∧ (iv 1 7).toInt ≤ 8 := hI.1 1 7
          have hFc := free_all hD hS hA
          refine va_calli (va_runV (As := []) (rest := []) ⟨hx, hb, hml, hown, ht⟩ (c_X8_readClause_r l dC dI H.size ak av h g ca (u2 (u2 (u2 (u2 iv 8 5 w271_i_8_5) 8 4 w271_i_8_4) 8 3 w271_i_8_3) 1 8 w271_i_1_8) lv (u2 (u2 (u2 (u2 fa 1 2 w271_a_1_2) 1 3 w271_a_1_3) 1 4 w271_a_1_4) 1 5 w271_a_1_5) la (IX_a (c := 1) (k := 5) (IX_a (c := 1) (k := 4) (IX_a (c := 1) (k := 3) (IX_a (c := 1) (k := 2) (IX_i (c := 1) (k := 8) (IX_i (c := 8) (k := 3) (IX_i (c := 8) (k := 4) (IX_i (c := 8) (k := 5) hI (show inb (0, 200) w271_i_8_5 from ⟨by omega, by omega⟩)) (show inb (0, 5) w271_i_8_4 from ⟨by omega, by omega⟩)) (show inb ((-1), 200) w271_i_8_3 from ⟨by omega, by omega⟩)) (show inb (0, 12) w271_i_1_8 from ⟨by omega, by omega⟩)) hw271_a_1_2) hw271_a_1_3) hw271_a_1_4) hw271_a_1_5) (show 0 ≤ ((iv 1 7) : Int32).toInt ∧ ((iv 1 7) : Int32).toInt ≤ 7 from ⟨by omega, by omega⟩) hs9) (kV 0 ht m_692 m_694 m_17 m_82 m_695 rfl rfl hd_X8_readClause_v ⟨Nat.le_of_ble_eq_true rfl, Nat.le_of_ble_eq_true rfl⟩) (vWZ hP hK hD ((hZ.kept hS.2.1).narrow (free_all hD hS hA)) (rX_8 hK hP)) rfl rfl hl.1 rfl (lv_room (Nat.le_of_ble_eq_true rfl)) dX8_read_40 ⟨Nat.le_of_ble_eq_true rfl, Nat.le_of_ble_eq_true rfl⟩) hS (fun q _ h => hFc q h) hFc (fun r275 u t H1 locs ht9 hvm hr275 hB hz1 hk1 hS => ?_)
          obtain ⟨n276, n277, n278, n279, n280, n281, n282, n283, hn280, hn281, hn282, hn283, xr275_0, xr275_1, xr275_2, hr275, rfl⟩ := hr275
          have hn276 : ∀ j, inb (bA 1 2 j) (n276 j) := fun j => full_i _
          have hn277 : ∀ j, inb (bA 1 3 j) (n277 j) := fun j => full_i _
          have hn278 : ∀ j, inb (bA 1 4 j) (n278 j) := fun j => full_i _
          have hn279 : ∀ j, inb (bA 1 5 j) (n279 j) := fun j => full_i _
          have hn280 : 0 ≤ n280.toInt ∧ n280.toInt ≤ 12 := hn280
          have hn281 : (-1) ≤ n281.toInt ∧ n281.toInt ≤ 200 := hn281
          have hn282 : 0 ≤ n282.toInt ∧ n282.toInt ≤ 5 := hn282
          have hn283 : 0 ≤ n283.toInt ∧ n283.toInt ≤ 200 := hn283
          obtain ⟨hP, hD⟩ := hB
          rw [ht9] at hP
          generalize H1 = H at hP hS ⊢
          have hP : va_P (dC, dI) classes (WX h g ca (u2 (u2 (u2 (u2 iv 8 5 n283) 8 4 n282) 8 3 n281) 1 8 n280) lv (u2 (u2 (u2 (u2 fa 1 2 n276) 1 3 n277) 1 4 n278) 1 5 n279) la) H := hP
          have hD : va_D A (WX h g ca (u2 (u2 (u2 (u2 iv 8 5 n283) 8 4 n282) 8 3 n281) 1 8 n280) lv (u2 (u2 (u2 (u2 fa 1 2 n276) 1 3 n277) 1 4 n278) 1 5 n279) la) := (show va_D _ (WX h g ca (u2 (u2 (u2 (u2 iv 8 5 n283) 8 4 n282) 8 3 n281) 1 8 n280) lv (u2 (u2 (u2 (u2 fa 1 2 n276) 1 3 n277) 1 4 n278) 1 5 n279) la) from hD).weaken (fun _ _ _ h => hFc _ h)
          have xr275_0 : (((r275 : Int32).toInt = 0 ∧ 1 ≤ (n282 : Int32).toInt ∧ (n280 : Int32).toInt = (w271_i_1_8 : Int32).toInt ∧ ∃ (b kd v1 v2 : Int) (wd : Nat → Int), ClR (fun j => ((fa 8 1) j).toInt) ((iv 8 2) : Int32).toInt ((iv 1 7) : Int32).toInt (w271_i_8_5 : Int32).toInt (w271_i_1_8 : Int32).toInt (n282 : Int32).toInt (n281 : Int32).toInt b kd v1 v2 wd) ∨ ((r275 : Int32).toInt = 1 ∧ (n282 : Int32).toInt = (w271_i_8_4 : Int32).toInt ∧ (n281 : Int32).toInt = (w271_i_8_3 : Int32).toInt ∧ (n280 : Int32).toInt = (w271_i_1_8 : Int32).toInt + 1 ∧ (w271_i_1_8 : Int32).toInt ≤ 11 ∧ ClR (fun j => ((fa 8 1) j).toInt) ((iv 8 2) : Int32).toInt ((iv 1 7) : Int32).toInt (w271_i_8_5 : Int32).toInt (w271_i_1_8 : Int32).toInt 0 0 (n283 : Int32).toInt (n276 (12 * (((iv 1 7) : Int32).toInt).toNat + ((w271_i_1_8 : Int32).toInt).toNat)).toInt (n277 (12 * (((iv 1 7) : Int32).toInt).toNat + ((w271_i_1_8 : Int32).toInt).toNat)).toInt (n278 (12 * (((iv 1 7) : Int32).toInt).toNat + ((w271_i_1_8 : Int32).toInt).toNat)).toInt (fun j => (n279 ((8 * (12 * (((iv 1 7) : Int32).toInt).toNat + ((w271_i_1_8 : Int32).toInt).toNat)) + j)).toInt))) := xr275_0
          have xr275_1 : ∀ j : Nat, (j : Int) < 12 * ((iv 1 7) : Int32).toInt + (w271_i_1_8 : Int32).toInt → n276 j = w271_a_1_2 j ∧ n277 j = w271_a_1_3 j ∧ n278 j = w271_a_1_4 j := xr275_1
          have xr275_2 : ∀ j : Nat, (j : Int) < (8 * (12 * ((iv 1 7) : Int32).toInt + (w271_i_1_8 : Int32).toInt)) → n279 j = w271_a_1_5 j := xr275_2
          refine lv_if_eq (tgt := 57) hx hb dX8_read_43 (by decide) (fun c284 => ?_) (fun c284 => ?_)
          · have fc284 := z_eq (rfl : (r275).toInt = _) (by decide : (0 : Int32).toInt = 0) c284
            refine lv_iconst (v := 0) hx hb dX8_read_57 (by decide) ?_
            refine lv_istore_n (lv' := [(1, .int 0), (2, .int x271_2), (0, .ref (g 11 4))]) hx hb dX8_read_58 rfl hl (by decide) rfl (fun ls hl => ?_)
            obtain ⟨v285, ev285⟩ : ∃ y : Int32, y = x271_2 + 1 := ⟨_, rfl⟩
            have tv285 := z_add ev285 rfl (by decide : (1 : Int32).toInt = 1) (by omega) (by omega)
            refine lv_iinc (v := v285) (lv' := [(2, .int v285), (1, .int 0), (0, .ref (g 11 4))]) hx hb dX8_read_59 hl (k := 1) rfl (by rw [ev285]; rfl) (by decide) rfl (fun ls hl => ?_)
            refine lv_goto (tgt := 29) hx hb dX8_read_62 (by decide) ?_
            exact ih272 v285 0 n283 n282 n281 n280 n276 n277 n278 n279 ⟨by omega, by omega⟩ ⟨by decide, by decide⟩ ⟨by omega, by omega⟩ ⟨by omega, by omega⟩ ⟨by omega, by omega⟩ ⟨by omega, by omega⟩ hn276 hn277 hn278 hn279 (show (((0 : Int32).toInt = 1 ∧ (n280 : Int32).toInt = (v285 : Int32).toInt ∧ (n282 : Int32).toInt = 0 ∧ (n281 : Int32).toInt = -1 ∧ ∃ a : Int, Pf (fun j => ((fa 8 1) j).toInt) ((iv 8 2) : Int32).toInt (iv 1 7).toInt (fun i => (n276 (12 * ((iv 1 7).toInt).toNat + i)).toInt) (fun i => (n277 (12 * ((iv 1 7).toInt).toNat + i)).toInt) (fun i => (n278 (12 * ((iv 1 7).toInt).toNat + i)).toInt) (fun i j => (n279 (8 * (12 * ((iv 1 7).toInt).toNat + i) + j)).toInt) ((n280 : Int32).toInt).toNat a ∧ Sk (fun j => ((fa 8 1) j).toInt) ((iv 8 2) : Int32).toInt a (n283 : Int32).toInt ∧ (n283 : Int32).toInt < ((iv 8 2) : Int32).toInt) ∨ ((0 : Int32).toInt = 0 ∧ ((n282 : Int32).toInt ≠ 0 ∨ (n281 : Int32).toInt = -1) ∧ Out (fun j => ((fa 8 1) j).toInt) (iv 8 2).toInt (iv 1 7).toInt (n282 : Int32).toInt (n281 : Int32).toInt ((n280 : Int32).toInt).toNat (fun i => (n276 (12 * ((iv 1 7).toInt).toNat + i)).toInt) (fun i => (n277 (12 * ((iv 1 7).toInt).toNat + i)).toInt) (fun i => (n278 (12 * ((iv 1 7).toInt).toNat + i)).toInt) (fun i j => (n279 (8 * (12 * ((iv 1 7).toInt).toNat + i) + j)).toInt))) from (by
                  rcases hq272_0 with ⟨i1, i2, i3, i4, a, i5, i6, i7⟩ | ⟨i1, -⟩
                  · have hc9 : ((((w271_i_1_8 : Int32).toInt).toNat : Nat) : Int) = (w271_i_1_8 : Int32).toInt := Int.toNat_of_nonneg (by omega)
                    have hp9 := (Pf_cg _ _ (fun i hi => ⟨congrArg Int32.toInt (xr275_1 (12 * ((iv 1 7).toInt).toNat + i) (by omega)).1.symm, congrArg Int32.toInt (xr275_1 (12 * ((iv 1 7).toInt).toNat + i) (by omega)).2.1.symm, congrArg Int32.toInt (xr275_1 (12 * ((iv 1 7).toInt).toNat + i) (by omega)).2.2.symm, fun j hj => congrArg Int32.toInt (xr275_2 (8 * (12 * ((iv 1 7).toInt).toNat + i) + j) (by omega)).symm⟩) i5)
                    rcases xr275_0 with ⟨c1, c2, c3, b, kd, v1, v2, wd, c4⟩ | ⟨c1, -⟩
                    · rw [show ((n280 : Int32).toInt).toNat = ((w271_i_1_8 : Int32).toInt).toNat from by omega]
                      exact Or.inr ⟨by omega, Or.inl (by omega), a, _, hp9, i6, Or.inr ⟨i7, by omega, b, kd, v1, v2, wd, by rw [hc9]; exact c4⟩⟩
                    · exfalso; omega
                  · exfalso; omega)) (show ∀ j : Nat, (j : Int) < 12 * (iv 1 7).toInt → n276 j = (fa 1 2) j ∧ n277 j = (fa 1 3) j ∧ n278 j = (fa 1 4) j from (fun j hj => ⟨(xr275_1 j (by omega)).1.trans (hq272_1 j hj).1, (xr275_1 j (by omega)).2.1.trans (hq272_1 j hj).2.1, (xr275_1 j (by omega)).2.2.trans (hq272_1 j hj).2.2⟩)) (show ∀ j : Nat, (j : Int) < 96 * (iv 1 7).toInt → n279 j = (fa 1 5) j from (fun j hj => (xr275_2 j (by omega)).trans (hq272_2 j hj))) (show (v285 : Int32).toInt ≤ 13 from by omega) (show 0 ≤ (v285 : Int32).toInt from by omega) (by omega) _ _ ls hP hD hS (lv_sub hl [0, 1, 2] rfl)
          · have fc284 := z_ne (rfl : (r275).toInt = _) (by decide : (0 : Int32).toInt = 0) c284
            refine lv_aload_n hx hb dX8_read_46 rfl (lv_at hl 2 rfl) ?_
            have hFc := free_all hD hS hA
            refine va_calli (va_runV (As := []) (rest := []) ⟨hx, hb, hml, hown, ht⟩ (c_X8_skipBlanks_r l dC dI H.size h g ca (u2 (u2 (u2 (u2 iv 8 5 n283) 8 4 n282) 8 3 n281) 1 8 n280) lv (u2 (u2 (u2 (u2 fa 1 2 n276) 1 3 n277) 1 4 n278) 1 5 n279) la (IX_a (c := 1) (k := 5) (IX_a (c := 1) (k := 4) (IX_a (c := 1) (k := 3) (IX_a (c := 1) (k := 2) (IX_i (c := 1) (k := 8) (IX_i (c := 8) (k := 3) (IX_i (c := 8) (k := 4) (IX_i (c := 8) (k := 5) hI (show inb (0, 200) n283 from ⟨by omega, by omega⟩)) (show inb (0, 5) n282 from ⟨by omega, by omega⟩)) (show inb ((-1), 200) n281 from ⟨by omega, by omega⟩)) (show inb (0, 12) n280 from ⟨by omega, by omega⟩)) hn276) hn277) hn278) hn279)) (kV 0 ht m_688 m_690 m_16 m_82 m_691 rfl rfl hd_X8_skipBlanks_v ⟨Nat.le_of_ble_eq_true rfl, Nat.le_of_ble_eq_true rfl⟩) (vW hP hK hD (rX_8 hK hP)) rfl rfl hl.1 rfl (lv_room (Nat.le_of_ble_eq_true rfl)) dX8_read_47 ⟨Nat.le_of_ble_eq_true rfl, Nat.le_of_ble_eq_true rfl⟩) hS (fun q _ h => hFc q h) hFc (fun r286 u t H1 locs ht9 hvm hr286 hB hz1 hk1 hS => ?_)
            obtain ⟨n287, hn287, xr286_0, xr286_1, hr286, rfl⟩ := hr286
            have hn287 : 0 ≤ n287.toInt ∧ n287.toInt ≤ 200 := hn287
            obtain ⟨hP, hD⟩ := hB
            rw [ht9] at hP
            generalize H1 = H at hP hS ⊢
            have hP : va_P (dC, dI) classes (WX h g ca (u2 (u2 (u2 (u2 iv 8 5 n287) 8 4 n282) 8 3 n281) 1 8 n280) lv (u2 (u2 (u2 (u2 fa 1 2 n276) 1 3 n277) 1 4 n278) 1 5 n279) la) H := hP
            have hD : va_D A (WX h g ca (u2 (u2 (u2 (u2 iv 8 5 n287) 8 4 n282) 8 3 n281) 1 8 n280) lv (u2 (u2 (u2 (u2 fa 1 2 n276) 1 3 n277) 1 4 n278) 1 5 n279) la) := (show va_D _ (WX h g ca (u2 (u2 (u2 (u2 iv 8 5 n287) 8 4 n282) 8 3 n281) 1 8 n280) lv (u2 (u2 (u2 (u2 fa 1 2 n276) 1 3 n277) 1 4 n278) 1 5 n279) la) from hD).weaken (fun _ _ _ h => hFc _ h)
            have xr286_0 : Sk (fun j => ((fa 8 1) j).toInt) ((iv 8 2) : Int32).toInt (n283 : Int32).toInt (n287 : Int32).toInt := xr286_0
            have xr286_1 : (((r286 : Int32).toInt = 1 ∧ (n287 : Int32).toInt < ((iv 8 2) : Int32).toInt) ∨ ((r286 : Int32).toInt = 0 ∧ ((iv 8 2) : Int32).toInt ≤ (n287 : Int32).toInt)) := xr286_1
            refine lv_if_eq (tgt := 57) hx hb dX8_read_50 (by decide) (fun c288 => ?_) (fun c288 => ?_)
            · have fc288 := z_eq (rfl : (r286).toInt = _) (by decide : (0 : Int32).toInt = 0) c288
              refine lv_iconst (v := 0) hx hb dX8_read_57 (by decide) ?_
              refine lv_istore_n (lv' := [(1, .int 0), (2, .int x271_2), (0, .ref (g 11 4))]) hx hb dX8_read_58 rfl hl (by decide) rfl (fun ls hl => ?_)
              obtain ⟨v289, ev289⟩ : ∃ y : Int32, y = x271_2 + 1 := ⟨_, rfl⟩
              have tv289 := z_add ev289 rfl (by decide : (1 : Int32).toInt = 1) (by omega) (by omega)
              refine lv_iinc (v := v289) (lv' := [(2, .int v289), (1, .int 0), (0, .ref (g 11 4))]) hx hb dX8_read_59 hl (k := 1) rfl (by rw [ev289]; rfl) (by decide) rfl (fun ls hl => ?_)
              refine lv_goto (tgt := 29) hx hb dX8_read_62 (by decide) ?_
              exact ih272 v289 0 n287 n282 n281 n280 n276 n277 n278 n279 ⟨by omega, by omega⟩ ⟨by decide, by decide⟩ ⟨by omega, by omega⟩ ⟨by omega, by omega⟩ ⟨by omega, by omega⟩ ⟨by omega, by omega⟩ hn276 hn277 hn278 hn279 (show (((0 : Int32).toInt = 1 ∧ (n280 : Int32).toInt = (v289 : Int32).toInt ∧ (n282 : Int32).toInt = 0 ∧ (n281 : Int32).toInt = -1 ∧ ∃ a : Int, Pf (fun j => ((fa 8 1) j).toInt) ((iv 8 2) : Int32).toInt (iv 1 7).toInt (fun i => (n276 (12 * ((iv 1 7).toInt).toNat + i)).toInt) (fun i => (n277 (12 * ((iv 1 7).toInt).toNat + i)).toInt) (fun i => (n278 (12 * ((iv 1 7).toInt).toNat + i)).toInt) (fun i j => (n279 (8 * (12 * ((iv 1 7).toInt).toNat + i) + j)).toInt) ((n280 : Int32).toInt).toNat a ∧ Sk (fun j => ((fa 8 1) j).toInt) ((iv 8 2) : Int32).toInt a (n287 : Int32).toInt ∧ (n287 : Int32).toInt < ((iv 8 2) : Int32).toInt) ∨ ((0 : Int32).toInt = 0 ∧ ((n282 : Int32).toInt ≠ 0 ∨ (n281 : Int32).toInt = -1) ∧ Out (fun j => ((fa 8 1) j).toInt) (iv 8 2).toInt (iv 1 7).toInt (n282 : Int32).toInt (n281 : Int32).toInt ((n280 : Int32).toInt).toNat (fun i => (n276 (12 * ((iv 1 7).toInt).toNat + i)).toInt) (fun i => (n277 (12 * ((iv 1 7).toInt).toNat + i)).toInt) (fun i => (n278 (12 * ((iv 1 7).toInt).toNat + i)).toInt) (fun i j => (n279 (8 * (12 * ((iv 1 7).toInt).toNat + i) + j)).toInt))) from (by
                    rcases hq272_0 with ⟨i1, i2, i3, i4, a, i5, i6, i7⟩ | ⟨i1, -⟩
                    · have hc9 : ((((w271_i_1_8 : Int32).toInt).toNat : Nat) : Int) = (w271_i_1_8 : Int32).toInt := Int.toNat_of_nonneg (by omega)
                      have hp9 := (Pf_cg _ _ (fun i hi => ⟨congrArg Int32.toInt (xr275_1 (12 * ((iv 1 7).toInt).toNat + i) (by omega)).1.symm, congrArg Int32.toInt (xr275_1 (12 * ((iv 1 7).toInt).toNat + i) (by omega)).2.1.symm, congrArg Int32.toInt (xr275_1 (12 * ((iv 1 7).toInt).toNat + i) (by omega)).2.2.symm, fun j hj => congrArg Int32.toInt (xr275_2 (8 * (12 * ((iv 1 7).toInt).toNat + i) + j) (by omega)).symm⟩) i5)
                      rcases xr275_0 with ⟨c1, -⟩ | ⟨c1, c2, c3, c4, c5, c6⟩
                      · exfalso; omega
                      · rw [← hc9] at c6
                        have hn9 := Pf_S hp9 i6 i7 c6
                        rw [show ((n280 : Int32).toInt).toNat = ((w271_i_1_8 : Int32).toInt).toNat + 1 from by omega]
                        rcases xr286_1 with ⟨q1, q2⟩ | ⟨q1, q2⟩
                        · exfalso; omega
                        · exact Or.inr ⟨by omega, Or.inr (by omega), _, _, hn9, xr286_0, Or.inl ⟨by omega, by omega⟩⟩
                    · exfalso; omega)) (show ∀ j : Nat, (j : Int) < 12 * (iv 1 7).toInt → n276 j = (fa 1 2) j ∧ n277 j = (fa 1 3) j ∧ n278 j = (fa 1 4) j from (fun j hj => ⟨(xr275_1 j (by omega)).1.trans (hq272_1 j hj).1, (xr275_1 j (by omega)).2.1.trans (hq272_1 j hj).2.1, (xr275_1 j (by omega)).2.2.trans (hq272_1 j hj).2.2⟩)) (show ∀ j : Nat, (j : Int) < 96 * (iv 1 7).toInt → n279 j = (fa 1 5) j from (fun j hj => (xr275_2 j (by omega)).trans (hq272_2 j hj))) (show (v289 : Int32).toInt ≤ 13 from by omega) (show 0 ≤ (v289 : Int32).toInt from by omega) (by omega) _ _ ls hP hD hS (lv_sub hl [0, 1, 2] rfl)
            · have fc288 := z_ne (rfl : (r286).toInt = _) (by decide : (0 : Int32).toInt = 0) c288
              refine lv_iconst (v := 1) hx hb dX8_read_53 (by decide) ?_
              refine lv_goto (tgt := 58) hx hb dX8_read_54 (by decide) ?_
              refine lv_istore_n (lv' := [(1, .int 1), (2, .int x271_2), (0, .ref (g 11 4))]) hx hb dX8_read_58 rfl hl (by decide) rfl (fun ls hl => ?_)
              obtain ⟨v290, ev290⟩ : ∃ y : Int32, y = x271_2 + 1 := ⟨_, rfl⟩
              have tv290 := z_add ev290 rfl (by decide : (1 : Int32).toInt = 1) (by omega) (by omega)
              refine lv_iinc (v := v290) (lv' := [(2, .int v290), (1, .int 1), (0, .ref (g 11 4))]) hx hb dX8_read_59 hl (k := 1) rfl (by rw [ev290]; rfl) (by decide) rfl (fun ls hl => ?_)
              refine lv_goto (tgt := 29) hx hb dX8_read_62 (by decide) ?_
              have : (1 : Int32).toInt = 1 := (by decide)
              exact ih272 v290 1 n287 n282 n281 n280 n276 n277 n278 n279 ⟨by omega, by omega⟩ ⟨by decide, by decide⟩ ⟨by omega, by omega⟩ ⟨by omega, by omega⟩ ⟨by omega, by omega⟩ ⟨by omega, by omega⟩ hn276 hn277 hn278 hn279 (show (((1 : Int32).toInt = 1 ∧ (n280 : Int32).toInt = (v290 : Int32).toInt ∧ (n282 : Int32).toInt = 0 ∧ (n281 : Int32).toInt = -1 ∧ ∃ a : Int, Pf (fun j => ((fa 8 1) j).toInt) ((iv 8 2) : Int32).toInt (iv 1 7).toInt (fun i => (n276 (12 * ((iv 1 7).toInt).toNat + i)).toInt) (fun i => (n277 (12 * ((iv 1 7).toInt).toNat + i)).toInt) (fun i => (n278 (12 * ((iv 1 7).toInt).toNat + i)).toInt) (fun i j => (n279 (8 * (12 * ((iv 1 7).toInt).toNat + i) + j)).toInt) ((n280 : Int32).toInt).toNat a ∧ Sk (fun j => ((fa 8 1) j).toInt) ((iv 8 2) : Int32).toInt a (n287 : Int32).toInt ∧ (n287 : Int32).toInt < ((iv 8 2) : Int32).toInt) ∨ ((1 : Int32).toInt = 0 ∧ ((n282 : Int32).toInt ≠ 0 ∨ (n281 : Int32).toInt = -1) ∧ Out (fun j => ((fa 8 1) j).toInt) (iv 8 2).toInt (iv 1 7).toInt (n282 : Int32).toInt (n281 : Int32).toInt ((n280 : Int32).toInt).toNat (fun i => (n276 (12 * ((iv 1 7).toInt).toNat + i)).toInt) (fun i => (n277 (12 * ((iv 1 7).toInt).toNat + i)).toInt) (fun i => (n278 (12 * ((iv 1 7).toInt).toNat + i)).toInt) (fun i j => (n279 (8 * (12 * ((iv 1 7).toInt).toNat + i) + j)).toInt))) from (by
                    rcases hq272_0 with ⟨i1, i2, i3, i4, a, i5, i6, i7⟩ | ⟨i1, -⟩
                    · have hc9 : ((((w271_i_1_8 : Int32).toInt).toNat : Nat) : Int) = (w271_i_1_8 : Int32).toInt := Int.toNat_of_nonneg (by omega)
                      have hp9 := (Pf_cg _ _ (fun i hi => ⟨congrArg Int32.toInt (xr275_1 (12 * ((iv 1 7).toInt).toNat + i) (by omega)).1.symm, congrArg Int32.toInt (xr275_1 (12 * ((iv 1 7).toInt).toNat + i) (by omega)).2.1.symm, congrArg Int32.toInt (xr275_1 (12 * ((iv 1 7).toInt).toNat + i) (by omega)).2.2.symm, fun j hj => congrArg Int32.toInt (xr275_2 (8 * (12 * ((iv 1 7).toInt).toNat + i) + j) (by omega)).symm⟩) i5)
                      rcases xr275_0 with ⟨c1, -⟩ | ⟨c1, c2, c3, c4, c5, c6⟩
                      · exfalso; omega
                      · rw [← hc9] at c6
                        have hn9 := Pf_S hp9 i6 i7 c6
                        rw [show ((n280 : Int32).toInt).toNat = ((w271_i_1_8 : Int32).toInt).toNat + 1 from by omega]
                        rcases xr286_1 with ⟨q1, q2⟩ | ⟨q1, q2⟩
                        · exact Or.inl ⟨by omega, by omega, by omega, by omega, _, hn9, xr286_0, by omega⟩
                        · exfalso; omega
                    · exfalso; omega)) (show ∀ j : Nat, (j : Int) < 12 * (iv 1 7).toInt → n276 j = (fa 1 2) j ∧ n277 j = (fa 1 3) j ∧ n278 j = (fa 1 4) j from (fun j hj => ⟨(xr275_1 j (by omega)).1.trans (hq272_1 j hj).1, (xr275_1 j (by omega)).2.1.trans (hq272_1 j hj).2.1, (xr275_1 j (by omega)).2.2.trans (hq272_1 j hj).2.2⟩)) (show ∀ j : Nat, (j : Int) < 96 * (iv 1 7).toInt → n279 j = (fa 1 5) j from (fun j hj => (xr275_2 j (by omega)).trans (hq272_2 j hj))) (show (v290 : Int32).toInt ≤ 13 from by omega) (show 0 ≤ (v290 : Int32).toInt from by omega) (by omega) _ _ ls hP hD hS (lv_sub hl [0, 1, 2] rfl)
  have : ((-1) : Int32).toInt = (-1) := (by decide)
  exact lp272 14 0 r3 n4 0 (-1) n2 (fa 1 2) (fa 1 3) (fa 1 4) (fa 1 5) ⟨by decide, by decide⟩ ⟨by omega, by omega⟩ ⟨by omega, by omega⟩ ⟨by decide, by decide⟩ ⟨by decide, by decide⟩ ⟨by omega, by omega⟩ (hI.2 1 2) (hI.2 1 3) (hI.2 1 4) (hI.2 1 5) (show (((r3 : Int32).toInt = 1 ∧ (n2 : Int32).toInt = (0 : Int32).toInt ∧ (0 : Int32).toInt = 0 ∧ ((-1) : Int32).toInt = -1 ∧ ∃ a : Int, Pf (fun j => ((fa 8 1) j).toInt) ((iv 8 2) : Int32).toInt (iv 1 7).toInt (fun i => ((fa 1 2) (12 * ((iv 1 7).toInt).toNat + i)).toInt) (fun i => ((fa 1 3) (12 * ((iv 1 7).toInt).toNat + i)).toInt) (fun i => ((fa 1 4) (12 * ((iv 1 7).toInt).toNat + i)).toInt) (fun i j => ((fa 1 5) (8 * (12 * ((iv 1 7).toInt).toNat + i) + j)).toInt) ((n2 : Int32).toInt).toNat a ∧ Sk (fun j => ((fa 8 1) j).toInt) ((iv 8 2) : Int32).toInt a (n4 : Int32).toInt ∧ (n4 : Int32).toInt < ((iv 8 2) : Int32).toInt) ∨ ((r3 : Int32).toInt = 0 ∧ ((0 : Int32).toInt ≠ 0 ∨ ((-1) : Int32).toInt = -1) ∧ Out (fun j => ((fa 8 1) j).toInt) (iv 8 2).toInt (iv 1 7).toInt (0 : Int32).toInt ((-1) : Int32).toInt ((n2 : Int32).toInt).toNat (fun i => ((fa 1 2) (12 * ((iv 1 7).toInt).toNat + i)).toInt) (fun i => ((fa 1 3) (12 * ((iv 1 7).toInt).toNat + i)).toInt) (fun i => ((fa 1 4) (12 * ((iv 1 7).toInt).toNat + i)).toInt) (fun i j => ((fa 1 5) (8 * (12 * ((iv 1 7).toInt).toNat + i) + j)).toInt))) from (by
        have h0 : (0 : Int32).toInt = 0 := by decide
        have hc9 : ((n2 : Int32).toInt).toNat = 0 := by omega
        have hk9 := xr3_0
        rw [h0] at hk9
        rw [hc9]
        rcases xr3_1 with ⟨q1, q2⟩ | ⟨q1, q2⟩
        · exact Or.inl ⟨by omega, by omega, by omega, by omega, 0, rfl, hk9, by omega⟩
        · exact Or.inr ⟨by omega, Or.inr (by omega), 0, _, rfl, hk9, Or.inl ⟨by omega, by omega⟩⟩)) (show ∀ j : Nat, (j : Int) < 12 * (iv 1 7).toInt → (fa 1 2) j = (fa 1 2) j ∧ (fa 1 3) j = (fa 1 3) j ∧ (fa 1 4) j = (fa 1 4) j from fun j hj => ⟨rfl, rfl, rfl⟩) (show ∀ j : Nat, (j : Int) < 96 * (iv 1 7).toInt → (fa 1 5) j = (fa 1 5) j from fun j hj => rfl) (show (0 : Int32).toInt ≤ 13 from by omega) (show 0 ≤ (0 : Int32).toInt from by omega) (by first | decide | omega) _ _ ls hP hD hS (lv_sub hl [0, 1, 2] rfl)
set_option maxHeartbeats 4000000 in
set_option maxRecDepth 100000 in
/-- X1_enact -/
theorem c_X1_enact_r (l : Launch) (dC : Nat → ClassId) (dI : Nat → Nat → Nat) (sz : Nat) (h : Nat) (g : Nat → Nat → Nat) (ca : Nat → Nat → ClassId) (iv : Nat → Nat → Int32) (lv : Nat → Nat → Int64) (fa : Nat → Nat → Nat → Int32) (la : Nat → Nat → Nat → Int64) (hI : IX iv fa) (a : Int32) (q_1_7 : 0 ≤ (iv 1 7).toInt ∧ (iv 1 7).toInt ≤ 7) : Met l yX1_enact (wc yX1_enact cX1_enact 2 (some .int)) ({ frames := 0, cells := 0, slots := 0, locals := 0 } : Room) (pW (dC, dI) classes (WX h g ca iv lv fa la) (TX ca) sz [.ref (g 11 3), .int a]) (va_Qi (fun r (u : SS) => ∃ (na_1_0 : Nat → Int32) (na_1_1 : Nat → Int32) (ni_1_7 : Int32), (∀ j, inb (bA 1 1 j) (na_1_1 j)) ∧ inb (bI 1 7) ni_1_7 ∧ ni_1_7.toInt = (iv 1 7).toInt + 1 ∧ (r.toInt = (iv 1 7).toInt) ∧ ((ni_1_7).toInt = (iv 1 7).toInt + 1) ∧ (∀ j : Nat, j ≠ ((iv 1 7).toInt).toNat → na_1_0 j = (fa 1 0) j) ∧ (∀ j : Nat, j ≠ ((iv 1 7).toInt).toNat → na_1_1 j = (fa 1 1) j) ∧ (na_1_0 ((iv 1 7).toInt).toNat = a) ∧ ((na_1_1 ((iv 1 7).toInt).toNat).toInt = (iv 1 8).toInt) ∧ (0 ≤ r.toInt ∧ r.toInt ≤ 7) ∧ u = ((u2 iv 1 7 ni_1_7), lv, (u2 (u2 fa 1 0 na_1_0) 1 1 na_1_1), la)) (bX (dC, dI) h g ca (va_A (WX h g ca iv lv fa la) sz)) (va_A (WX h g ca iv lv fa la) sz)) 0 0 (va_A (WX h g ca iv lv fa la) sz) := by
  refine Met.ofW (cc := cX1_enact) (maxL := 2) (ret := (some .int)) (by decide) rfl ?_
  intro p e s m args below meth c s₁ B hml hv
  obtain ⟨rfl, hsz, hP, hK, hD0⟩ := hv
  have hx := B.exec
  have hb := B.bytes
  have hr := B.returns
  have ht := tb_tl (atoms_spec (ws := wc yX1_enact cX1_enact 2 (some .int)) B.pre)
  have hown : s.vm.findClass RX1 = some m.cls := findClass_of_methodNamed B.named
  have hlocks := B.notSynchronized
  subst hsz
  have hD := hD0.self (sz := s.heap.size)
  generalize hAe : va_A (WX h g ca iv lv fa la) s.heap.size = A at hD ⊢
  have hA : ∀ q : Nat, s.heap.size ≤ q → A q := fun q h => by rw [← hAe]; exact Or.inr h
  have hS : va_S A s.heap s.heap [] := va_S.rf
  have hl := lv_entry [.ref (g 11 3), .int a] (n := 2) (Nat.le_of_ble_eq_true rfl)
  rw [lg_entry_eq]
  generalize (lg_sl [.ref (g 11 3), .int a] ++ List.replicate (2 - (lg_sl [.ref (g 11 3), .int a]).length) Slot.unset).toArray = ls at hl ⊢
  have hl : lv_has ls 2 [(0, .ref (g 11 3)), (1, .int a)] := hl
  refine lv_aload_n hx hb dX1_enact_0 rfl (lv_at hl 0 rfl) ?_
  refine gX_1_0 hx hb ht hown hK hP m_189 dX1_enact_1 ?_
  refine lv_aload_n hx hb dX1_enact_4 rfl (lv_at hl 0 rfl) ?_
  have i_1_7 : 0 ≤ (iv 1 7).toInt ∧ (iv 1 7).toInt ≤ 8 := hI.1 1 7
  refine gX_1_7 hx hb ht hown hK hP m_196 (v := (iv 1 7)) rfl dX1_enact_5 ?_
  refine lv_iload_n hx hb dX1_enact_8 rfl (lv_at hl 1 rfl) ?_
  refine tX_1_0 hx hb hK hP hD hS (f0 := (fa 1 0)) rfl (i := (iv 1 7)) (x := a) (vp_in_iff.mpr ⟨by omega, by omega⟩) dX1_enact_9 (fun f1 ef1 H locs hP hD hS => ?_)
  have hf1 : ∀ j, inb (bA 1 0 j) (f1 j) := fun j => full_i _
  refine lv_aload_n hx hb dX1_enact_10 rfl (lv_at hl 0 rfl) ?_
  refine gX_1_1 hx hb ht hown hK hP m_190 dX1_enact_11 ?_
  refine lv_aload_n hx hb dX1_enact_14 rfl (lv_at hl 0 rfl) ?_
  refine gX_1_7 hx hb ht hown hK hP m_196 (v := (iv 1 7)) rfl dX1_enact_15 ?_
  refine lv_aload_n hx hb dX1_enact_18 rfl (lv_at hl 0 rfl) ?_
  have i_1_8 : 0 ≤ (iv 1 8).toInt ∧ (iv 1 8).toInt ≤ 12 := hI.1 1 8
  refine gX_1_8 hx hb ht hown hK hP m_199 (v := (iv 1 8)) rfl dX1_enact_19 ?_
  refine tX_1_1 hx hb hK hP hD hS (f0 := (fa 1 1)) rfl (i := (iv 1 7)) (x := (iv 1 8)) (vp_in_iff.mpr ⟨by omega, by omega⟩) dX1_enact_22 (fun f2 ef2 H locs hP hD hS => ?_)
  have hf2 : ∀ j, inb (bA 1 1 j) (f2 j) := by rw [ef2]; exact upd_b (b := bA 1 1) (hI.2 1 1) (show inb (0, 12) (iv 1 8) from ⟨by omega, by omega⟩)
  refine lv_aload_n hx hb dX1_enact_23 rfl (lv_at hl 0 rfl) ?_
  refine lv_dup hx hb dX1_enact_24 rfl ?_
  refine gX_1_7 hx hb ht hown hK hP m_196 (v := (iv 1 7)) rfl dX1_enact_25 ?_
  refine lv_iconst (v := 1) hx hb dX1_enact_28 (by decide) ?_
  refine lv_iadd hx hb dX1_enact_29 ?_
  refine lv_topi (fun v3 ev3 => ?_)
  have tv3 := z_add ev3 (rfl : ((iv 1 7)).toInt = _) (by decide : (1 : Int32).toInt = 1) (by omega) (by omega)
  refine pX_1_7 (v := v3) hx hb ht hown hK hP hD hS m_196 dX1_enact_30 (fun H locs hP hD hS => ?_)
  refine lv_aload_n hx hb dX1_enact_33 rfl (lv_at hl 0 rfl) ?_
  refine gX_1_7 hx hb ht hown hK hP m_196 (v := v3) rfl dX1_enact_34 ?_
  refine lv_iconst (v := 1) hx hb dX1_enact_37 (by decide) ?_
  refine lv_isub hx hb dX1_enact_38 ?_
  refine lv_topi (fun v4 ev4 => ?_)
  have tv4 := z_sub ev4 (rfl : (v3).toInt = _) (by decide : (1 : Int32).toInt = 1) (by omega) (by omega)
  have hP9 : va_P (dC, dI) classes (WX h g ca (u2 iv 1 7 v3) lv (u2 (u2 fa 1 0 f1) 1 1 f2) la) H := hP
  have hD9 : va_D A (WX h g ca (u2 iv 1 7 v3) lv (u2 (u2 fa 1 0 f1) 1 1 f2) la) := hD
  exact W.iret (v := v4) hx hb hr (fun t ht9 hW => ⟨⟨v4, ((u2 iv 1 7 v3), lv, (u2 (u2 fa 1 0 f1) 1 1 f2), la), rfl, ⟨f1, f2, v3, hf2, (show inb (0, 8) v3 from ⟨by omega, by omega⟩), (by omega), (show (v4 : Int32).toInt = (iv 1 7).toInt from by omega), (show (v3 : Int32).toInt = (iv 1 7).toInt + 1 from by omega), (show ∀ j : Nat, j ≠ ((iv 1 7).toInt).toNat → f1 j = (fa 1 0) j from fun j hj => by rw [ef1, upd_ne (show j ≠ (iv 1 7).toNatClampNeg from hj)]), (show ∀ j : Nat, j ≠ ((iv 1 7).toInt).toNat → f2 j = (fa 1 1) j from fun j hj => by rw [ef2, upd_ne (show j ≠ (iv 1 7).toNatClampNeg from hj)]), (show f1 ((iv 1 7).toInt).toNat = a from (by rw [ef1]; exact upd_eq)), (show (f2 ((iv 1 7).toInt).toNat).toInt = (iv 1 8).toInt from (by rw [ef2]; exact congrArg Int32.toInt upd_eq)), ⟨by omega, by omega⟩, rfl⟩, by rw [ht9]; exact hP9, hD9⟩, hS.F ht9⟩) hS.2.2 dX1_enact_39
/-! ===== re1 ===== -/

/-- a byte with its sign -/
def sg (v : Int) : Int := if 128 ≤ v ∧ v ≤ 255 then v - 256 else v
theorem sg_i (v : Int) : (¬ (128 ≤ v ∧ v ≤ 255) ∧ sg v = v) ∨ (128 ≤ v ∧ v ≤ 255 ∧ sg v = v - 256) := by
  unfold sg; split
  · exact Or.inr ⟨by omega, by omega, rfl⟩
  · exact Or.inl ⟨by omega, rfl⟩
/-- a name clause ahead of its semicolon -/
def NmP (t : Nat → Int) (n a f p b v1 v2 : Int) (wd : Nat → Int) : Prop := ∃ s e : Int, Sk t n a s ∧ Rn t n 97 122 s e ∧ ((e = s ∧ f = 1 ∧ p = s) ∨ (8 < e - s ∧ f = 4 ∧ p = s) ∨ ((s < e ∧ e - s ≤ 8) ∧ (∀ j : Nat, j < 8 → ((j : Int) < e - s → wd j = t (s.toNat + j)) ∧ (e - s ≤ (j : Int) → wd j = 0)) ∧ ∃ f1 p1 b1 : Int, Num t n 0 9999 e f1 p1 v1 b1 ∧ ((f1 ≠ 0 ∧ f = f1 ∧ p = p1) ∨ (f1 = 0 ∧ ∃ s2 e2 : Int, Sk t n b1 s2 ∧ Rn t n 97 122 s2 e2 ∧ ((¬ w_to t s2 e2 ∧ f = 1 ∧ p = s2) ∨ (w_to t s2 e2 ∧ ∃ f2 p2 b2 : Int, Num t n (v1 + 1) 9999 e2 f2 p2 v2 b2 ∧ ((f2 ≠ 0 ∧ f = f2 ∧ p = p2) ∨ (f2 = 0 ∧ f = 0 ∧ b = b2))))))))
theorem NmP_bad {t : Nat → Int} {n a f p b v1 v2 b' kd : Int} {wd : Nat → Int} (hf : f ≠ 0) (h : NmP t n a f p b v1 v2 wd) : NamR t n a f p b' kd v1 v2 wd := by
  obtain ⟨s, e, h1, h2, h3⟩ := h
  refine ⟨s, e, h1, h2, ?_⟩
  rcases h3 with h3 | h3 | ⟨a1, a2, f1, p1, b1, hn, h3⟩
  · exact Or.inl h3
  · exact Or.inr (Or.inl h3)
  · refine Or.inr (Or.inr ⟨a1, a2, f1, p1, b1, hn, ?_⟩)
    rcases h3 with h3 | ⟨a3, s2, e2, g1, g2, h3⟩
    · exact Or.inl h3
    · refine Or.inr ⟨a3, s2, e2, g1, g2, ?_⟩
      rcases h3 with h3 | ⟨a4, f2, p2, b2, hm, h3⟩
      · exact Or.inl h3
      · refine Or.inr ⟨a4, f2, p2, b2, hm, ?_⟩
        rcases h3 with h3 | ⟨-, h3, -⟩
        · exact Or.inl h3
        · exact absurd h3 hf
theorem NmP_ok {t : Nat → Int} {n a p b v1 v2 f' p' b' kd : Int} {wd : Nat → Int} (h : NmP t n a 0 p b v1 v2 wd) (hk : kd = 6) (hs : StpR t n b f' p' b') : NamR t n a f' p' b' kd v1 v2 wd := by
  obtain ⟨s, e, h1, h2, h3⟩ := h
  refine ⟨s, e, h1, h2, ?_⟩
  rcases h3 with ⟨-, h3, -⟩ | ⟨-, h3, -⟩ | ⟨a1, a2, f1, p1, b1, hn, h3⟩
  · exact absurd h3 (by decide)
  · exact absurd h3 (by decide)
  · refine Or.inr (Or.inr ⟨a1, a2, f1, p1, b1, hn, ?_⟩)
    rcases h3 with ⟨a3, a4, -⟩ | ⟨a3, s2, e2, g1, g2, h3⟩
    · exact absurd a4.symm a3
    · refine Or.inr ⟨a3, s2, e2, g1, g2, ?_⟩
      rcases h3 with ⟨-, h3, -⟩ | ⟨a4, f2, p2, b2, hm, h3⟩
      · exact absurd h3 (by decide)
      · refine Or.inr ⟨a4, f2, p2, b2, hm, ?_⟩
        rcases h3 with ⟨a5, a6, -⟩ | ⟨a5, -, a6⟩
        · exact absurd a6.symm a5
        · rw [a6] at hs; exact Or.inr ⟨a5, hk, hs⟩
set_option maxHeartbeats 4000000 in
set_option maxRecDepth 100000 in
/-- X12_here -/
theorem c_X12_here_r (l : Launch) (dC : Nat → ClassId) (dI : Nat → Nat → Nat) (sz : Nat) (h : Nat) (g : Nat → Nat → Nat) (ca : Nat → Nat → ClassId) (iv : Nat → Nat → Int32) (lv : Nat → Nat → Int64) (fa : Nat → Nat → Nat → Int32) (la : Nat → Nat → Nat → Int64) (hI : IX iv fa) : Met l yX12_here (wc yX12_here cX12_here 1 (some .int)) ({ frames := 0, cells := 0, slots := 0, locals := 0 } : Room) (pW (dC, dI) classes (WM h g ca iv lv fa la) (TM ca) sz [.ref h]) (va_Qi (fun r (u : SS) => ∃ (ni_12_34 : Int32), inb (bI 12 34) ni_12_34 ∧ ((iv 12 34).toInt ≤ (ni_12_34).toInt) ∧ (Sk (fun j => sg ((fa 12 32) j).toInt) (iv 12 33).toInt (iv 12 34).toInt (ni_12_34).toInt) ∧ (((r.toInt = -1 ∧ (iv 12 33).toInt ≤ (ni_12_34).toInt) ∨ ((ni_12_34).toInt < (iv 12 33).toInt ∧ r.toInt = ((fa 12 32) ((ni_12_34).toInt).toNat).toInt))) ∧ (True) ∧ u = ((u2 iv 12 34 ni_12_34), lv, fa, la)) (bM (dC, dI) h g ca (va_A (WM h g ca iv lv fa la) sz)) (va_A (WM h g ca iv lv fa la) sz)) 0 0 (va_A (WM h g ca iv lv fa la) sz) := by
  refine Met.ofW (cc := cX12_here) (maxL := 1) (ret := (some .int)) (by decide) rfl ?_
  intro p e s m args below meth c s₁ B hml hv
  obtain ⟨rfl, hsz, hP, hK, hD0⟩ := hv
  have hx := B.exec
  have hb := B.bytes
  have hr := B.returns
  have ht := tb_tl (atoms_spec (ws := wc yX12_here cX12_here 1 (some .int)) B.pre)
  have hown : s.vm.findClass RX12 = some m.cls := findClass_of_methodNamed B.named
  have hlocks := B.notSynchronized
  subst hsz
  have hD := hD0.self (sz := s.heap.size)
  generalize hAe : va_A (WM h g ca iv lv fa la) s.heap.size = A at hD ⊢
  have hA : ∀ q : Nat, s.heap.size ≤ q → A q := fun q h => by rw [← hAe]; exact Or.inr h
  have hS : va_S A s.heap s.heap [] := va_S.rf
  have hl := lv_entry [.ref h] (n := 1) (Nat.le_of_ble_eq_true rfl)
  rw [lg_entry_eq]
  generalize (lg_sl [.ref h] ++ List.replicate (1 - (lg_sl [.ref h]).length) Slot.unset).toArray = ls at hl ⊢
  have hl : lv_has ls 1 [(0, .ref h)] := hl
  have i_12_33 : 0 ≤ (iv 12 33).toInt ∧ (iv 12 33).toInt ≤ 200 := hI.1 12 33
  have lp20 : ∀ (nn20 : Nat) (w19_i_12_34 : Int32), 0 ≤ w19_i_12_34.toInt ∧ w19_i_12_34.toInt ≤ 200 → (iv 12 34).toInt ≤ (w19_i_12_34 : Int32).toInt → (∀ j : Nat, (iv 12 34).toInt ≤ (j : Int) → (j : Int) < (w19_i_12_34 : Int32).toInt → (j : Int) < ((iv 12 33) : Int32).toInt ∧ sg ((fa 12 32) j).toInt = 32) → 200 - w19_i_12_34.toInt < (nn20 : Int) → ∀ (H : Heap) (locs : List Loc), ∀ (ls : Array Slot), va_P (dC, dI) classes (WM h g ca (u2 iv 12 34 w19_i_12_34) lv fa la) H → va_D A (WM h g ca (u2 iv 12 34 w19_i_12_34) lv fa la) → va_S A s.heap H locs → lv_has ls 1 [(0, .ref h)] → W p l e ({ frames := 0, cells := 0, slots := 0, locals := 0 } : Room) s m ([.ref h] : List Value).toArray below meth c H locs 0 0 (MQ below (va_Qi (fun r (u : SS) => ∃ (ni_12_34 : Int32), inb (bI 12 34) ni_12_34 ∧ ((iv 12 34).toInt ≤ (ni_12_34).toInt) ∧ (Sk (fun j => sg ((fa 12 32) j).toInt) (iv 12 33).toInt (iv 12 34).toInt (ni_12_34).toInt) ∧ (((r.toInt = -1 ∧ (iv 12 33).toInt ≤ (ni_12_34).toInt) ∨ ((ni_12_34).toInt < (iv 12 33).toInt ∧ r.toInt = ((fa 12 32) ((ni_12_34).toInt).toNat).toInt))) ∧ (True) ∧ u = ((u2 iv 12 34 ni_12_34), lv, fa, la)) (bM (dC, dI) h g ca A) A) ([.ref h] : List Value).toArray s 0 0 A) (F0 m 0 ls []) := by
    intro nn20
    induction nn20 with
    | zero => intro w19_i_12_34 hw19_i_12_34 hq20_0 hq20_1 hm20; exfalso; omega
    | succ nn20 ih20 =>
      intro w19_i_12_34 hw19_i_12_34 hq20_0 hq20_1 hm20 H locs ls hP hD hS hl
      refine lv_aload_n hx hb dX12_here_0 rfl (lv_at hl 0 rfl) ?_
      refine gM_12_34 hx hb ht hown hK hP m_1173 (v := w19_i_12_34) rfl dX12_here_1 ?_
      refine lv_aload_n hx hb dX12_here_4 rfl (lv_at hl 0 rfl) ?_
      refine gM_12_33 hx hb ht hown hK hP m_1172 (v := (iv 12 33)) rfl dX12_here_5 ?_
      refine lv_icmp_ge (tgt := 38) hx hb dX12_here_8 (by decide) (fun c21 => ?_) (fun c21 => ?_)
      · have fc21 := z_le (rfl : ((iv 12 33)).toInt = _) (rfl : (w19_i_12_34).toInt = _) c21
        refine lv_aload_n hx hb dX12_here_38 rfl (lv_at hl 0 rfl) ?_
        refine gM_12_34 hx hb ht hown hK hP m_1173 (v := w19_i_12_34) rfl dX12_here_39 ?_
        refine lv_aload_n hx hb dX12_here_42 rfl (lv_at hl 0 rfl) ?_
        refine gM_12_33 hx hb ht hown hK hP m_1172 (v := (iv 12 33)) rfl dX12_here_43 ?_
        refine lv_icmp_ge (tgt := 61) hx hb dX12_here_46 (by decide) (fun c22 => ?_) (fun c22 => ?_)
        · have fc22 := z_le (rfl : ((iv 12 33)).toInt = _) (rfl : (w19_i_12_34).toInt = _) c22
          refine lv_iconst (v := (-1)) hx hb dX12_here_61 (by decide) ?_
          have : ((-1) : Int32).toInt = (-1) := (by decide)
          have hP9 : va_P (dC, dI) classes (WM h g ca (u2 iv 12 34 w19_i_12_34) lv fa la) H := hP
          have hD9 : va_D A (WM h g ca (u2 iv 12 34 w19_i_12_34) lv fa la) := hD
          exact W.iret (v := (-1)) hx hb hr (fun t ht9 hW => ⟨⟨(-1), ((u2 iv 12 34 w19_i_12_34), lv, fa, la), rfl, ⟨w19_i_12_34, (show inb (0, 200) w19_i_12_34 from ⟨by omega, by omega⟩), (show (iv 12 34).toInt ≤ (w19_i_12_34 : Int32).toInt from by omega), (show Sk (fun j => sg ((fa 12 32) j).toInt) ((iv 12 33) : Int32).toInt (iv 12 34).toInt (w19_i_12_34 : Int32).toInt from ⟨by omega, hq20_1, fun q => by omega⟩), (show ((((-1) : Int32).toInt = -1 ∧ ((iv 12 33) : Int32).toInt ≤ (w19_i_12_34 : Int32).toInt) ∨ ((w19_i_12_34 : Int32).toInt < ((iv 12 33) : Int32).toInt ∧ ((-1) : Int32).toInt = ((fa 12 32) ((w19_i_12_34 : Int32).toInt).toNat).toInt)) from Or.inl ⟨by omega, by omega⟩), trivial, rfl⟩, by rw [ht9]; exact hP9, hD9⟩, hS.F ht9⟩) hS.2.2 dX12_here_62
        · have fc22 := z_nle (rfl : ((iv 12 33)).toInt = _) (rfl : (w19_i_12_34).toInt = _) c22
          refine lv_aload_n hx hb dX12_here_49 rfl (lv_at hl 0 rfl) ?_
          refine gM_12_32 hx hb ht hown hK hP m_1171 dX12_here_50 ?_
          refine lv_aload_n hx hb dX12_here_53 rfl (lv_at hl 0 rfl) ?_
          refine gM_12_34 hx hb ht hown hK hP m_1173 (v := w19_i_12_34) rfl dX12_here_54 ?_
          refine lM_12_32 hx hb hK hP (f := (fa 12 32)) rfl (vp_in_iff.mpr ⟨by omega, by omega⟩) dX12_here_57 ?_
          refine lv_topi (fun v23 ev23 => ?_)
          refine lv_goto (tgt := 62) hx hb dX12_here_58 (by decide) ?_
          have hP9 : va_P (dC, dI) classes (WM h g ca (u2 iv 12 34 w19_i_12_34) lv fa la) H := hP
          have hD9 : va_D A (WM h g ca (u2 iv 12 34 w19_i_12_34) lv fa la) := hD
          exact W.iret (v := v23) hx hb hr (fun t ht9 hW => ⟨⟨v23, ((u2 iv 12 34 w19_i_12_34), lv, fa, la), rfl, ⟨w19_i_12_34, (show inb (0, 200) w19_i_12_34 from ⟨by omega, by omega⟩), (show (iv 12 34).toInt ≤ (w19_i_12_34 : Int32).toInt from by omega), (show Sk (fun j => sg ((fa 12 32) j).toInt) ((iv 12 33) : Int32).toInt (iv 12 34).toInt (w19_i_12_34 : Int32).toInt from ⟨by omega, hq20_1, fun q => by have q2 : sg (fa 12 32 ((w19_i_12_34 : Int32).toInt).toNat).toInt = 32 := q.2; have hv9 := congrArg Int32.toInt (show v23 = fa 12 32 ((w19_i_12_34 : Int32).toInt).toNat from ev23); have hv9g := sg_i (v23 : Int32).toInt; rw [hv9] at hv9g; omega⟩), (show (((v23 : Int32).toInt = -1 ∧ ((iv 12 33) : Int32).toInt ≤ (w19_i_12_34 : Int32).toInt) ∨ ((w19_i_12_34 : Int32).toInt < ((iv 12 33) : Int32).toInt ∧ (v23 : Int32).toInt = ((fa 12 32) ((w19_i_12_34 : Int32).toInt).toNat).toInt)) from (by have hv9 := congrArg Int32.toInt (show v23 = fa 12 32 ((w19_i_12_34 : Int32).toInt).toNat from ev23); have hv9g := sg_i (v23 : Int32).toInt; exact Or.inr ⟨by omega, by omega⟩)), trivial, rfl⟩, by rw [ht9]; exact hP9, hD9⟩, hS.F ht9⟩) hS.2.2 dX12_here_62
      · have fc21 := z_nle (rfl : ((iv 12 33)).toInt = _) (rfl : (w19_i_12_34).toInt = _) c21
        refine lv_aload_n hx hb dX12_here_11 rfl (lv_at hl 0 rfl) ?_
        refine gM_12_32 hx hb ht hown hK hP m_1171 dX12_here_12 ?_
        refine lv_aload_n hx hb dX12_here_15 rfl (lv_at hl 0 rfl) ?_
        refine gM_12_34 hx hb ht hown hK hP m_1173 (v := w19_i_12_34) rfl dX12_here_16 ?_
        refine lM_12_32 hx hb hK hP (f := (fa 12 32)) rfl (vp_in_iff.mpr ⟨by omega, by omega⟩) dX12_here_19 ?_
        refine lv_topi (fun v24 ev24 => ?_)
        refine lv_bipush (v := 32) hx hb dX12_here_20 (by decide) ?_
        refine lv_icmp_ne (tgt := 38) hx hb dX12_here_22 (by decide) (fun c25 => ?_) (fun c25 => ?_)
        · have fc25 := z_ne (rfl : (v24).toInt = _) (by decide : (32 : Int32).toInt = 32) c25
          refine lv_aload_n hx hb dX12_here_38 rfl (lv_at hl 0 rfl) ?_
          refine gM_12_34 hx hb ht hown hK hP m_1173 (v := w19_i_12_34) rfl dX12_here_39 ?_
          refine lv_aload_n hx hb dX12_here_42 rfl (lv_at hl 0 rfl) ?_
          refine gM_12_33 hx hb ht hown hK hP m_1172 (v := (iv 12 33)) rfl dX12_here_43 ?_
          refine lv_icmp_ge (tgt := 61) hx hb dX12_here_46 (by decide) (fun c26 => ?_) (fun c26 => ?_)
          · have fc26 := z_le (rfl : ((iv 12 33)).toInt = _) (rfl : (w19_i_12_34).toInt = _) c26
            refine lv_iconst (v := (-1)) hx hb dX12_here_61 (by decide) ?_
            have : ((-1) : Int32).toInt = (-1) := (by decide)
            have hP9 : va_P (dC, dI) classes (WM h g ca (u2 iv 12 34 w19_i_12_34) lv fa la) H := hP
            have hD9 : va_D A (WM h g ca (u2 iv 12 34 w19_i_12_34) lv fa la) := hD
            exact W.iret (v := (-1)) hx hb hr (fun t ht9 hW => ⟨⟨(-1), ((u2 iv 12 34 w19_i_12_34), lv, fa, la), rfl, ⟨w19_i_12_34, (show inb (0, 200) w19_i_12_34 from ⟨by omega, by omega⟩), (show (iv 12 34).toInt ≤ (w19_i_12_34 : Int32).toInt from by omega), (show Sk (fun j => sg ((fa 12 32) j).toInt) ((iv 12 33) : Int32).toInt (iv 12 34).toInt (w19_i_12_34 : Int32).toInt from ⟨by omega, hq20_1, fun q => by have q2 : sg (fa 12 32 ((w19_i_12_34 : Int32).toInt).toNat).toInt = 32 := q.2; have hv9 := congrArg Int32.toInt (show v24 = fa 12 32 ((w19_i_12_34 : Int32).toInt).toNat from ev24); have hv9g := sg_i (v24 : Int32).toInt; rw [hv9] at hv9g; omega⟩), (show ((((-1) : Int32).toInt = -1 ∧ ((iv 12 33) : Int32).toInt ≤ (w19_i_12_34 : Int32).toInt) ∨ ((w19_i_12_34 : Int32).toInt < ((iv 12 33) : Int32).toInt ∧ ((-1) : Int32).toInt = ((fa 12 32) ((w19_i_12_34 : Int32).toInt).toNat).toInt)) from Or.inl ⟨by omega, by omega⟩), trivial, rfl⟩, by rw [ht9]; exact hP9, hD9⟩, hS.F ht9⟩) hS.2.2 dX12_here_62
          · have fc26 := z_nle (rfl : ((iv 12 33)).toInt = _) (rfl : (w19_i_12_34).toInt = _) c26
            refine lv_aload_n hx hb dX12_here_49 rfl (lv_at hl 0 rfl) ?_
            refine gM_12_32 hx hb ht hown hK hP m_1171 dX12_here_50 ?_
            refine lv_aload_n hx hb dX12_here_53 rfl (lv_at hl 0 rfl) ?_
            refine gM_12_34 hx hb ht hown hK hP m_1173 (v := w19_i_12_34) rfl dX12_here_54 ?_
            refine lM_12_32 hx hb hK hP (f := (fa 12 32)) rfl (vp_in_iff.mpr ⟨by omega, by omega⟩) dX12_here_57 ?_
            refine lv_topi (fun v27 ev27 => ?_)
            obtain rfl : v24 = v27 := ev24.trans ev27.symm
            refine lv_goto (tgt := 62) hx hb dX12_here_58 (by decide) ?_
            have hP9 : va_P (dC, dI) classes (WM h g ca (u2 iv 12 34 w19_i_12_34) lv fa la) H := hP
            have hD9 : va_D A (WM h g ca (u2 iv 12 34 w19_i_12_34) lv fa la) := hD
            exact W.iret (v := v24) hx hb hr (fun t ht9 hW => ⟨⟨v24, ((u2 iv 12 34 w19_i_12_34), lv, fa, la), rfl, ⟨w19_i_12_34, (show inb (0, 200) w19_i_12_34 from ⟨by omega, by omega⟩), (show (iv 12 34).toInt ≤ (w19_i_12_34 : Int32).toInt from by omega), (show Sk (fun j => sg ((fa 12 32) j).toInt) ((iv 12 33) : Int32).toInt (iv 12 34).toInt (w19_i_12_34 : Int32).toInt from ⟨by omega, hq20_1, fun q => by have q2 : sg (fa 12 32 ((w19_i_12_34 : Int32).toInt).toNat).toInt = 32 := q.2; have hv9 := congrArg Int32.toInt (show v24 = fa 12 32 ((w19_i_12_34 : Int32).toInt).toNat from ev24); have hv9g := sg_i (v24 : Int32).toInt; rw [hv9] at hv9g; omega⟩), (show (((v24 : Int32).toInt = -1 ∧ ((iv 12 33) : Int32).toInt ≤ (w19_i_12_34 : Int32).toInt) ∨ ((w19_i_12_34 : Int32).toInt < ((iv 12 33) : Int32).toInt ∧ (v24 : Int32).toInt = ((fa 12 32) ((w19_i_12_34 : Int32).toInt).toNat).toInt)) from (by have hv9 := congrArg Int32.toInt (show v24 = fa 12 32 ((w19_i_12_34 : Int32).toInt).toNat from ev24); have hv9g := sg_i (v24 : Int32).toInt; exact Or.inr ⟨by omega, by omega⟩)), trivial, rfl⟩, by rw [ht9]; exact hP9, hD9⟩, hS.F ht9⟩) hS.2.2 dX12_here_62
        · have fc25 := z_eq (rfl : (v24).toInt = _) (by decide : (32 : Int32).toInt = 32) c25
          refine lv_aload_n hx hb dX12_here_25 rfl (lv_at hl 0 rfl) ?_
          refine lv_dup hx hb dX12_here_26 rfl ?_
          refine gM_12_34 hx hb ht hown hK hP m_1173 (v := w19_i_12_34) rfl dX12_here_27 ?_
          refine lv_iconst (v := 1) hx hb dX12_here_30 (by decide) ?_
          refine lv_iadd hx hb dX12_here_31 ?_
          refine lv_topi (fun v28 ev28 => ?_)
          have tv28 := z_add ev28 (rfl : (w19_i_12_34).toInt = _) (by decide : (1 : Int32).toInt = 1) (by omega) (by omega)
          refine pM_12_34 (v := v28) hx hb ht hown hK hP hD hS m_1173 dX12_here_32 (fun H locs hP hD hS => ?_)
          have hP : va_P (dC, dI) classes (WM h g ca (u2 iv 12 34 v28) lv fa la) H := hP
          have hD : va_D A (WM h g ca (u2 iv 12 34 v28) lv fa la) := hD
          refine lv_goto (tgt := 0) hx hb dX12_here_35 (by decide) ?_
          exact ih20 v28 ⟨by omega, by omega⟩ (show (iv 12 34).toInt ≤ (v28 : Int32).toInt from by omega) (show ∀ j : Nat, (iv 12 34).toInt ≤ (j : Int) → (j : Int) < (v28 : Int32).toInt → (j : Int) < ((iv 12 33) : Int32).toInt ∧ sg ((fa 12 32) j).toInt = 32 from (fun j h1 h2 => by
                by_cases hj : (j : Int) < (w19_i_12_34 : Int32).toInt
                · exact hq20_1 j h1 hj
                · have hj2 : j = ((w19_i_12_34 : Int32).toInt).toNat := by omega
                  have hv9 := congrArg Int32.toInt (show v24 = fa 12 32 ((w19_i_12_34 : Int32).toInt).toNat from ev24); have hv9g := sg_i (v24 : Int32).toInt; rw [hv9] at hv9g
                  rw [hj2]
                  exact ⟨by omega, by omega⟩)) (by omega) _ _ ls hP hD hS (lv_sub hl [0] rfl)
  have i_12_34 : 0 ≤ (iv 12 34).toInt ∧ (iv 12 34).toInt ≤ 200 := hI.1 12 34
  have i_12_33 : 0 ≤ (iv 12 33).toInt ∧ (iv 12 33).toInt ≤ 200 := hI.1 12 33
  exact lp20 201 (iv 12 34) ⟨by omega, by omega⟩ (show (iv 12 34).toInt ≤ ((iv 12 34) : Int32).toInt from by omega) (show ∀ j : Nat, (iv 12 34).toInt ≤ (j : Int) → (j : Int) < ((iv 12 34) : Int32).toInt → (j : Int) < ((iv 12 33) : Int32).toInt ∧ sg ((fa 12 32) j).toInt = 32 from fun j h1 h2 => absurd h1 (by omega)) (by first | decide | omega) _ _ ls hP hD hS (lv_sub hl [0] rfl)
set_option maxHeartbeats 4000000 in
set_option maxRecDepth 100000 in
/-- X12_takeWord -/
theorem c_X12_takeWord_r (l : Launch) (dC : Nat → ClassId) (dI : Nat → Nat → Nat) (sz : Nat) (h : Nat) (g : Nat → Nat → Nat) (ca : Nat → Nat → ClassId) (iv : Nat → Nat → Int32) (lv : Nat → Nat → Int64) (fa : Nat → Nat → Nat → Int32) (la : Nat → Nat → Nat → Int64) (hI : IX iv fa) : Met l yX12_takeWord (wc yX12_takeWord cX12_takeWord 2 none) ({ frames := 1, cells := 0, slots := 0, locals := 25 } : Room) (pW (dC, dI) classes (WM h g ca iv lv fa la) (TM ca) sz [.ref h]) (va_Qv (fun (u : SS) => ∃ (ni_12_34 : Int32) (ni_12_37 : Int32) (ni_12_38 : Int32), inb (bI 12 34) ni_12_34 ∧ inb (bI 12 37) ni_12_37 ∧ inb (bI 12 38) ni_12_38 ∧ ((iv 12 34).toInt ≤ (ni_12_37).toInt) ∧ ((ni_12_37).toInt + (ni_12_38).toInt = (ni_12_34).toInt) ∧ (Sk (fun j => sg ((fa 12 32) j).toInt) (iv 12 33).toInt (iv 12 34).toInt (ni_12_37).toInt) ∧ (Rn (fun j => sg ((fa 12 32) j).toInt) (iv 12 33).toInt 97 122 (ni_12_37).toInt (ni_12_34).toInt) ∧ u = ((u2 (u2 (u2 iv 12 34 ni_12_34) 12 37 ni_12_37) 12 38 ni_12_38), lv, fa, la)) (bM (dC, dI) h g ca (va_A (WM h g ca iv lv fa la) sz)) (va_A (WM h g ca iv lv fa la) sz)) 0 0 (va_A (WM h g ca iv lv fa la) sz) := by
  refine Met.ofW (cc := cX12_takeWord) (maxL := 2) (ret := none) (by decide) rfl ?_
  intro p e s m args below meth c s₁ B hml hv
  obtain ⟨rfl, hsz, hP, hK, hD0⟩ := hv
  have hx := B.exec
  have hb := B.bytes
  have hr := B.returns
  have ht := tb_tl (atoms_spec (ws := wc yX12_takeWord cX12_takeWord 2 none) B.pre)
  have hown : s.vm.findClass RX12 = some m.cls := findClass_of_methodNamed B.named
  have hlocks := B.notSynchronized
  subst hsz
  have hD := hD0.self (sz := s.heap.size)
  generalize hAe : va_A (WM h g ca iv lv fa la) s.heap.size = A at hD ⊢
  have hA : ∀ q : Nat, s.heap.size ≤ q → A q := fun q h => by rw [← hAe]; exact Or.inr h
  have hS : va_S A s.heap s.heap [] := va_S.rf
  have hl := lv_entry [.ref h] (n := 2) (Nat.le_of_ble_eq_true rfl)
  rw [lg_entry_eq]
  generalize (lg_sl [.ref h] ++ List.replicate (2 - (lg_sl [.ref h]).length) Slot.unset).toArray = ls at hl ⊢
  have hl : lv_has ls 2 [(0, .ref h)] := hl
  refine lv_aload_n hx hb dX12_takeWord_0 rfl (lv_at hl 0 rfl) ?_
  have i_12_34 : 0 ≤ (iv 12 34).toInt ∧ (iv 12 34).toInt ≤ 200 := hI.1 12 34
  have hFc := free_all hD hS hA
  refine va_calli (va_runV (As := []) (rest := []) ⟨hx, hb, hml, hown, ht⟩ (c_X12_here_r l dC dI s.heap.size h g ca iv lv fa la hI) (kV 0 ht m_1458 m_1460 m_47 m_89 m_1461 rfl rfl hd_X12_here_v ⟨Nat.le_of_ble_eq_true rfl, Nat.le_of_ble_eq_true rfl⟩) (vW hP hK hD (rM_12 hK hP)) rfl rfl hl.1 rfl (lv_room (Nat.le_of_ble_eq_true rfl)) dX12_takeWord_1 ⟨Nat.le_of_ble_eq_true rfl, Nat.le_of_ble_eq_true rfl⟩) hS (fun q _ h => hFc q h) hFc (fun r1 u t H1 locs ht9 hvm hr1 hB hz1 hk1 hS => ?_)
  obtain ⟨n2, hn2, xr1_0, xr1_1, xr1_2, hr1, rfl⟩ := hr1
  have hn2 : 0 ≤ n2.toInt ∧ n2.toInt ≤ 200 := hn2
  obtain ⟨hP, hD⟩ := hB
  rw [ht9] at hP
  generalize H1 = H at hP hS ⊢
  have hP : va_P (dC, dI) classes (WM h g ca (u2 iv 12 34 n2) lv fa la) H := hP
  have hD : va_D A (WM h g ca (u2 iv 12 34 n2) lv fa la) := (show va_D _ (WM h g ca (u2 iv 12 34 n2) lv fa la) from hD).weaken (fun _ _ _ h => hFc _ h)
  have xr1_0 : ((iv 12 34) : Int32).toInt ≤ (n2 : Int32).toInt := xr1_0
  have i_12_33 : 0 ≤ (iv 12 33).toInt ∧ (iv 12 33).toInt ≤ 200 := hI.1 12 33
  have xr1_1 : Sk (fun j => sg ((fa 12 32) j).toInt) ((iv 12 33) : Int32).toInt ((iv 12 34) : Int32).toInt (n2 : Int32).toInt := xr1_1
  have xr1_2 : (((r1 : Int32).toInt = -1 ∧ ((iv 12 33) : Int32).toInt ≤ (n2 : Int32).toInt) ∨ ((n2 : Int32).toInt < ((iv 12 33) : Int32).toInt ∧ (r1 : Int32).toInt = ((fa 12 32) ((n2 : Int32).toInt).toNat).toInt)) := xr1_2
  refine lv_istore_n (lv' := [(1, .int r1), (0, .ref h)]) hx hb dX12_takeWord_4 rfl hl (by decide) rfl (fun ls hl => ?_)
  refine lv_aload_n hx hb dX12_takeWord_5 rfl (lv_at hl 1 rfl) ?_
  refine lv_aload_n hx hb dX12_takeWord_6 rfl (lv_at hl 1 rfl) ?_
  refine gM_12_34 hx hb ht hown hK hP m_1173 (v := n2) rfl dX12_takeWord_7 ?_
  refine pM_12_37 (v := n2) hx hb ht hown hK hP hD hS m_1176 dX12_takeWord_10 (fun H locs hP hD hS => ?_)
  have lp22 : ∀ (nn22 : Nat) (w21_i_12_34 : Int32), 0 ≤ w21_i_12_34.toInt ∧ w21_i_12_34.toInt ≤ 200 → (n2 : Int32).toInt ≤ (w21_i_12_34 : Int32).toInt → (∀ j : Nat, (n2 : Int32).toInt ≤ (j : Int) → (j : Int) < (w21_i_12_34 : Int32).toInt → (j : Int) < ((iv 12 33) : Int32).toInt ∧ 97 ≤ sg ((fa 12 32) j).toInt ∧ sg ((fa 12 32) j).toInt ≤ 122) → (iv 12 34).toInt ≤ (n2 : Int32).toInt → 200 - w21_i_12_34.toInt < (nn22 : Int) → ∀ (H : Heap) (locs : List Loc), ∀ (ls : Array Slot), va_P (dC, dI) classes (WM h g ca (u2 (u2 iv 12 34 w21_i_12_34) 12 37 n2) lv fa la) H → va_D A (WM h g ca (u2 (u2 iv 12 34 w21_i_12_34) 12 37 n2) lv fa la) → va_S A s.heap H locs → lv_has ls 2 [(1, .int r1), (0, .ref h)] → W p l e ({ frames := 1, cells := 0, slots := 0, locals := 25 } : Room) s m ([.ref h] : List Value).toArray below meth c H locs 0 0 (MQ below (va_Qv (fun (u : SS) => ∃ (ni_12_34 : Int32) (ni_12_37 : Int32) (ni_12_38 : Int32), inb (bI 12 34) ni_12_34 ∧ inb (bI 12 37) ni_12_37 ∧ inb (bI 12 38) ni_12_38 ∧ ((iv 12 34).toInt ≤ (ni_12_37).toInt) ∧ ((ni_12_37).toInt + (ni_12_38).toInt = (ni_12_34).toInt) ∧ (Sk (fun j => sg ((fa 12 32) j).toInt) (iv 12 33).toInt (iv 12 34).toInt (ni_12_37).toInt) ∧ (Rn (fun j => sg ((fa 12 32) j).toInt) (iv 12 33).toInt 97 122 (ni_12_37).toInt (ni_12_34).toInt) ∧ u = ((u2 (u2 (u2 iv 12 34 ni_12_34) 12 37 ni_12_37) 12 38 ni_12_38), lv, fa, la)) (bM (dC, dI) h g ca A) A) ([.ref h] : List Value).toArray s 0 0 A) (F0 m 13 ls []) := by
    intro nn22
    induction nn22 with
    | zero => intro w21_i_12_34 hw21_i_12_34 hq22_0 hq22_1 hq22_2 hm22; exfalso; omega
    | succ nn22 ih22 =>
      intro w21_i_12_34 hw21_i_12_34 hq22_0 hq22_1 hq22_2 hm22 H locs ls hP hD hS hl
      refine lv_aload_n hx hb dX12_takeWord_13 rfl (lv_at hl 1 rfl) ?_
      refine gM_12_34 hx hb ht hown hK hP m_1173 (v := w21_i_12_34) rfl dX12_takeWord_14 ?_
      refine lv_aload_n hx hb dX12_takeWord_17 rfl (lv_at hl 1 rfl) ?_
      refine gM_12_33 hx hb ht hown hK hP m_1172 (v := (iv 12 33)) rfl dX12_takeWord_18 ?_
      refine lv_icmp_ge (tgt := 59) hx hb dX12_takeWord_21 (by decide) (fun c23 => ?_) (fun c23 => ?_)
      · have fc23 := z_le (rfl : ((iv 12 33)).toInt = _) (rfl : (w21_i_12_34).toInt = _) c23
        refine lv_aload_n hx hb dX12_takeWord_59 rfl (lv_at hl 1 rfl) ?_
        refine lv_aload_n hx hb dX12_takeWord_60 rfl (lv_at hl 1 rfl) ?_
        refine gM_12_34 hx hb ht hown hK hP m_1173 (v := w21_i_12_34) rfl dX12_takeWord_61 ?_
        refine lv_aload_n hx hb dX12_takeWord_64 rfl (lv_at hl 1 rfl) ?_
        refine gM_12_37 hx hb ht hown hK hP m_1176 (v := n2) rfl dX12_takeWord_65 ?_
        refine lv_isub hx hb dX12_takeWord_68 ?_
        refine lv_topi (fun v24 ev24 => ?_)
        have tv24 := z_sub ev24 (rfl : (w21_i_12_34).toInt = _) (rfl : (n2).toInt = _) (by omega) (by omega)
        have : 0 ≤ (v24 : Int32).toInt ∧ (v24 : Int32).toInt ≤ 200 := ⟨by omega, by omega⟩
        refine pM_12_38 (v := v24) hx hb ht hown hK hP hD hS m_1177 dX12_takeWord_69 (fun H locs hP hD hS => ?_)
        have hP9 : va_P (dC, dI) classes (WM h g ca (u2 (u2 (u2 iv 12 34 w21_i_12_34) 12 37 n2) 12 38 v24) lv fa la) H := hP
        have hD9 : va_D A (WM h g ca (u2 (u2 (u2 iv 12 34 w21_i_12_34) 12 37 n2) 12 38 v24) lv fa la) := hD
        exact W.vret hx hb hr (fun t ht9 hW => ⟨⟨((u2 (u2 (u2 iv 12 34 w21_i_12_34) 12 37 n2) 12 38 v24), lv, fa, la), rfl, ⟨w21_i_12_34, n2, v24, (show inb (0, 200) w21_i_12_34 from ⟨by omega, by omega⟩), (show inb (0, 200) n2 from ⟨by omega, by omega⟩), (show inb (0, 200) v24 from ⟨by omega, by omega⟩), (show (iv 12 34).toInt ≤ (n2 : Int32).toInt from by omega), (show (n2 : Int32).toInt + (v24 : Int32).toInt = (w21_i_12_34 : Int32).toInt from by omega), (show Sk (fun j => sg ((fa 12 32) j).toInt) ((iv 12 33) : Int32).toInt (iv 12 34).toInt (n2 : Int32).toInt from xr1_1), (show Rn (fun j => sg ((fa 12 32) j).toInt) ((iv 12 33) : Int32).toInt 97 122 (n2 : Int32).toInt (w21_i_12_34 : Int32).toInt from ⟨by omega, hq22_1, fun q => by omega⟩), rfl⟩, by rw [ht9]; exact hP9, hD9⟩, hS.F ht9⟩) hS.2.2 dX12_takeWord_72
      · have fc23 := z_nle (rfl : ((iv 12 33)).toInt = _) (rfl : (w21_i_12_34).toInt = _) c23
        refine lv_aload_n hx hb dX12_takeWord_24 rfl (lv_at hl 1 rfl) ?_
        refine gM_12_32 hx hb ht hown hK hP m_1171 dX12_takeWord_25 ?_
        refine lv_aload_n hx hb dX12_takeWord_28 rfl (lv_at hl 1 rfl) ?_
        refine gM_12_34 hx hb ht hown hK hP m_1173 (v := w21_i_12_34) rfl dX12_takeWord_29 ?_
        refine lM_12_32 hx hb hK hP (f := (fa 12 32)) rfl (vp_in_iff.mpr ⟨by omega, by omega⟩) dX12_takeWord_32 ?_
        refine lv_topi (fun v25 ev25 => ?_)
        refine lv_i2l (v := (v25.toInt64)) hx hb dX12_takeWord_33 rfl ?_
        refine lv_ldc2 hx hb hown (ht _ m_1466) dX12_takeWord_34 ?_
        refine lv_ldc2 hx hb hown (ht _ m_1467) dX12_takeWord_37 ?_
        refine vp_callSi (W.runS (As := [.long (v25.toInt64), .long 97, .long 122]) (rest := []) ⟨hx, hb, hml, hown, ht⟩ (c_X12_in l dC dI (v25.toInt64) 97 122 (v25.toInt) (97) (122) ((Int32.toInt_toInt64 v25).trans rfl) (by decide : (97 : Int64).toInt = 97) (by decide : (122 : Int64).toInt = 122)) (kS 3 ht m_1370 m_1371 m_89 m_1372 rfl rfl hd_X12_in_v ⟨Nat.le_of_ble_eq_true rfl, Nat.le_of_ble_eq_true rfl⟩) (sR noP (hK.sub (tys' := []) [] rfl)) rfl rfl hl.1 rfl (lv_room (Nat.le_of_ble_eq_true rfl)) dX12_takeWord_40 ⟨Nat.le_of_ble_eq_true rfl, Nat.le_of_ble_eq_true rfl⟩) (fun r26 hr26 => ?_)
        rcases hr26 with ⟨rfl, fr26⟩ | ⟨rfl, fr26⟩
        · skip
          refine lv_if_eq (tgt := 59) hx hb dX12_takeWord_43 (by decide) (fun c27 => ?_) (fun c27 => ?_)
          · exact absurd c27 (by decide)
          · skip
            refine lv_aload_n hx hb dX12_takeWord_46 rfl (lv_at hl 1 rfl) ?_
            refine lv_dup hx hb dX12_takeWord_47 rfl ?_
            refine gM_12_34 hx hb ht hown hK hP m_1173 (v := w21_i_12_34) rfl dX12_takeWord_48 ?_
            refine lv_iconst (v := 1) hx hb dX12_takeWord_51 (by decide) ?_
            refine lv_iadd hx hb dX12_takeWord_52 ?_
            refine lv_topi (fun v28 ev28 => ?_)
            have tv28 := z_add ev28 (rfl : (w21_i_12_34).toInt = _) (by decide : (1 : Int32).toInt = 1) (by omega) (by omega)
            refine pM_12_34 (v := v28) hx hb ht hown hK hP hD hS m_1173 dX12_takeWord_53 (fun H locs hP hD hS => ?_)
            have hP : va_P (dC, dI) classes (WM h g ca (u2 (u2 iv 12 34 v28) 12 37 n2) lv fa la) H := hP
            have hD : va_D A (WM h g ca (u2 (u2 iv 12 34 v28) 12 37 n2) lv fa la) := hD
            refine lv_goto (tgt := 13) hx hb dX12_takeWord_56 (by decide) ?_
            exact ih22 v28 ⟨by omega, by omega⟩ (show (n2 : Int32).toInt ≤ (v28 : Int32).toInt from by omega) (show ∀ j : Nat, (n2 : Int32).toInt ≤ (j : Int) → (j : Int) < (v28 : Int32).toInt → (j : Int) < ((iv 12 33) : Int32).toInt ∧ 97 ≤ sg ((fa 12 32) j).toInt ∧ sg ((fa 12 32) j).toInt ≤ 122 from (fun j h1 h2 => by
                  by_cases hj : (j : Int) < (w21_i_12_34 : Int32).toInt
                  · exact hq22_1 j h1 hj
                  · have hj2 : j = ((w21_i_12_34 : Int32).toInt).toNat := by omega
                    have hv9 := congrArg Int32.toInt (show v25 = fa 12 32 ((w21_i_12_34 : Int32).toInt).toNat from ev25); have hv9g := sg_i (v25 : Int32).toInt; rw [hv9] at hv9g
                    rw [hj2]
                    exact ⟨by omega, by omega, by omega⟩)) (show (iv 12 34).toInt ≤ (n2 : Int32).toInt from by omega) (by omega) _ _ ls hP hD hS (lv_sub hl [0, 1] rfl)
        · skip
          refine lv_if_eq (tgt := 59) hx hb dX12_takeWord_43 (by decide) (fun c29 => ?_) (fun c29 => ?_)
          · skip
            refine lv_aload_n hx hb dX12_takeWord_59 rfl (lv_at hl 1 rfl) ?_
            refine lv_aload_n hx hb dX12_takeWord_60 rfl (lv_at hl 1 rfl) ?_
            refine gM_12_34 hx hb ht hown hK hP m_1173 (v := w21_i_12_34) rfl dX12_takeWord_61 ?_
            refine lv_aload_n hx hb dX12_takeWord_64 rfl (lv_at hl 1 rfl) ?_
            refine gM_12_37 hx hb ht hown hK hP m_1176 (v := n2) rfl dX12_takeWord_65 ?_
            refine lv_isub hx hb dX12_takeWord_68 ?_
            refine lv_topi (fun v30 ev30 => ?_)
            have tv30 := z_sub ev30 (rfl : (w21_i_12_34).toInt = _) (rfl : (n2).toInt = _) (by omega) (by omega)
            have : 0 ≤ (v30 : Int32).toInt ∧ (v30 : Int32).toInt ≤ 200 := ⟨by omega, by omega⟩
            refine pM_12_38 (v := v30) hx hb ht hown hK hP hD hS m_1177 dX12_takeWord_69 (fun H locs hP hD hS => ?_)
            have hP9 : va_P (dC, dI) classes (WM h g ca (u2 (u2 (u2 iv 12 34 w21_i_12_34) 12 37 n2) 12 38 v30) lv fa la) H := hP
            have hD9 : va_D A (WM h g ca (u2 (u2 (u2 iv 12 34 w21_i_12_34) 12 37 n2) 12 38 v30) lv fa la) := hD
            exact W.vret hx hb hr (fun t ht9 hW => ⟨⟨((u2 (u2 (u2 iv 12 34 w21_i_12_34) 12 37 n2) 12 38 v30), lv, fa, la), rfl, ⟨w21_i_12_34, n2, v30, (show inb (0, 200) w21_i_12_34 from ⟨by omega, by omega⟩), (show inb (0, 200) n2 from ⟨by omega, by omega⟩), (show inb (0, 200) v30 from ⟨by omega, by omega⟩), (show (iv 12 34).toInt ≤ (n2 : Int32).toInt from by omega), (show (n2 : Int32).toInt + (v30 : Int32).toInt = (w21_i_12_34 : Int32).toInt from by omega), (show Sk (fun j => sg ((fa 12 32) j).toInt) ((iv 12 33) : Int32).toInt (iv 12 34).toInt (n2 : Int32).toInt from xr1_1), (show Rn (fun j => sg ((fa 12 32) j).toInt) ((iv 12 33) : Int32).toInt 97 122 (n2 : Int32).toInt (w21_i_12_34 : Int32).toInt from ⟨by omega, hq22_1, fun q => by have q2 : 97 ≤ sg (fa 12 32 ((w21_i_12_34 : Int32).toInt).toNat).toInt ∧ sg (fa 12 32 ((w21_i_12_34 : Int32).toInt).toNat).toInt ≤ 122 := q.2; have hv9 := congrArg Int32.toInt (show v25 = fa 12 32 ((w21_i_12_34 : Int32).toInt).toNat from ev25); have hv9g := sg_i (v25 : Int32).toInt; rw [hv9] at hv9g; omega⟩), rfl⟩, by rw [ht9]; exact hP9, hD9⟩, hS.F ht9⟩) hS.2.2 dX12_takeWord_72
          · exact absurd rfl c29
  exact lp22 201 n2 ⟨by omega, by omega⟩ (show (n2 : Int32).toInt ≤ (n2 : Int32).toInt from by omega) (show ∀ j : Nat, (n2 : Int32).toInt ≤ (j : Int) → (j : Int) < (n2 : Int32).toInt → (j : Int) < ((iv 12 33) : Int32).toInt ∧ 97 ≤ sg ((fa 12 32) j).toInt ∧ sg ((fa 12 32) j).toInt ≤ 122 from fun j h1 h2 => absurd h1 (by omega)) (show (iv 12 34).toInt ≤ (n2 : Int32).toInt from by omega) (by first | decide | omega) _ _ ls hP hD hS (lv_sub hl [0, 1] rfl)

def lt6 (a b d k n q : Int32) : Nat → Int
  | 0 => a.toInt
  | 1 => b.toInt
  | 2 => d.toInt
  | 3 => k.toInt
  | 4 => n.toInt
  | _ => q.toInt
theorem cw_let {t : Nat → Int} {s e R : Int} (h : (R = 1 ∧ WdG t s e (3 : Int32).toInt (lt6 108 101 116 0 0 0)) ∨ (R = 0 ∧ ¬ WdG t s e (3 : Int32).toInt (lt6 108 101 116 0 0 0))) : (R = 1 ∧ w_let t s e) ∨ (R = 0 ∧ ¬ w_let t s e) := by
  have hm : (3 : Int32).toInt = 3 := (by decide)
  have c : WdG t s e (3 : Int32).toInt (lt6 108 101 116 0 0 0) ↔ w_let t s e := by
    constructor
    · intro h
      exact ⟨h.1.trans hm, (h.2 0 (by omega)).trans (show (108 : Int32).toInt = 108 from by decide +kernel), (h.2 1 (by omega)).trans (show (101 : Int32).toInt = 101 from by decide +kernel), (h.2 2 (by omega)).trans (show (116 : Int32).toInt = 116 from by decide +kernel)⟩
    · intro h
      obtain ⟨h0, q0, q1, q2⟩ := h
      refine ⟨h0.trans hm.symm, fun j hj => ?_⟩
      rcases (by omega : j = 0 ∨ j = 1 ∨ j = 2) with rfl | rfl | rfl
      · exact q0.trans (show (108 : Int) = (108 : Int32).toInt from by decide +kernel)
      · exact q1.trans (show (101 : Int) = (101 : Int32).toInt from by decide +kernel)
      · exact q2.trans (show (116 : Int) = (116 : Int32).toInt from by decide +kernel)
  rw [c] at h; exact h
theorem cw_take {t : Nat → Int} {s e R : Int} (h : (R = 1 ∧ WdG t s e (4 : Int32).toInt (lt6 116 97 107 101 0 0)) ∨ (R = 0 ∧ ¬ WdG t s e (4 : Int32).toInt (lt6 116 97 107 101 0 0))) : (R = 1 ∧ w_take t s e) ∨ (R = 0 ∧ ¬ w_take t s e) := by
  have hm : (4 : Int32).toInt = 4 := (by decide)
  have c : WdG t s e (4 : Int32).toInt (lt6 116 97 107 101 0 0) ↔ w_take t s e := by
    constructor
    · intro h
      exact ⟨h.1.trans hm, (h.2 0 (by omega)).trans (show (116 : Int32).toInt = 116 from by decide +kernel), (h.2 1 (by omega)).trans (show (97 : Int32).toInt = 97 from by decide +kernel), (h.2 2 (by omega)).trans (show (107 : Int32).toInt = 107 from by decide +kernel), (h.2 3 (by omega)).trans (show (101 : Int32).toInt = 101 from by decide +kernel)⟩
    · intro h
      obtain ⟨h0, q0, q1, q2, q3⟩ := h
      refine ⟨h0.trans hm.symm, fun j hj => ?_⟩
      rcases (by omega : j = 0 ∨ j = 1 ∨ j = 2 ∨ j = 3) with rfl | rfl | rfl | rfl
      · exact q0.trans (show (116 : Int) = (116 : Int32).toInt from by decide +kernel)
      · exact q1.trans (show (97 : Int) = (97 : Int32).toInt from by decide +kernel)
      · exact q2.trans (show (107 : Int) = (107 : Int32).toInt from by decide +kernel)
      · exact q3.trans (show (101 : Int) = (101 : Int32).toInt from by decide +kernel)
  rw [c] at h; exact h
theorem cw_name {t : Nat → Int} {s e R : Int} (h : (R = 1 ∧ WdG t s e (4 : Int32).toInt (lt6 110 97 109 101 0 0)) ∨ (R = 0 ∧ ¬ WdG t s e (4 : Int32).toInt (lt6 110 97 109 101 0 0))) : (R = 1 ∧ w_name t s e) ∨ (R = 0 ∧ ¬ w_name t s e) := by
  have hm : (4 : Int32).toInt = 4 := (by decide)
  have c : WdG t s e (4 : Int32).toInt (lt6 110 97 109 101 0 0) ↔ w_name t s e := by
    constructor
    · intro h
      exact ⟨h.1.trans hm, (h.2 0 (by omega)).trans (show (110 : Int32).toInt = 110 from by decide +kernel), (h.2 1 (by omega)).trans (show (97 : Int32).toInt = 97 from by decide +kernel), (h.2 2 (by omega)).trans (show (109 : Int32).toInt = 109 from by decide +kernel), (h.2 3 (by omega)).trans (show (101 : Int32).toInt = 101 from by decide +kernel)⟩
    · intro h
      obtain ⟨h0, q0, q1, q2, q3⟩ := h
      refine ⟨h0.trans hm.symm, fun j hj => ?_⟩
      rcases (by omega : j = 0 ∨ j = 1 ∨ j = 2 ∨ j = 3) with rfl | rfl | rfl | rfl
      · exact q0.trans (show (110 : Int) = (110 : Int32).toInt from by decide +kernel)
      · exact q1.trans (show (97 : Int) = (97 : Int32).toInt from by decide +kernel)
      · exact q2.trans (show (109 : Int) = (109 : Int32).toInt from by decide +kernel)
      · exact q3.trans (show (101 : Int) = (101 : Int32).toInt from by decide +kernel)
  rw [c] at h; exact h
theorem cw_strike {t : Nat → Int} {s e R : Int} (h : (R = 1 ∧ WdG t s e (6 : Int32).toInt (lt6 115 116 114 105 107 101)) ∨ (R = 0 ∧ ¬ WdG t s e (6 : Int32).toInt (lt6 115 116 114 105 107 101))) : (R = 1 ∧ w_strike t s e) ∨ (R = 0 ∧ ¬ w_strike t s e) := by
  have hm : (6 : Int32).toInt = 6 := (by decide)
  have c : WdG t s e (6 : Int32).toInt (lt6 115 116 114 105 107 101) ↔ w_strike t s e := by
    constructor
    · intro h
      exact ⟨h.1.trans hm, (h.2 0 (by omega)).trans (show (115 : Int32).toInt = 115 from by decide +kernel), (h.2 1 (by omega)).trans (show (116 : Int32).toInt = 116 from by decide +kernel), (h.2 2 (by omega)).trans (show (114 : Int32).toInt = 114 from by decide +kernel), (h.2 3 (by omega)).trans (show (105 : Int32).toInt = 105 from by decide +kernel), (h.2 4 (by omega)).trans (show (107 : Int32).toInt = 107 from by decide +kernel), (h.2 5 (by omega)).trans (show (101 : Int32).toInt = 101 from by decide +kernel)⟩
    · intro h
      obtain ⟨h0, q0, q1, q2, q3, q4, q5⟩ := h
      refine ⟨h0.trans hm.symm, fun j hj => ?_⟩
      rcases (by omega : j = 0 ∨ j = 1 ∨ j = 2 ∨ j = 3 ∨ j = 4 ∨ j = 5) with rfl | rfl | rfl | rfl | rfl | rfl
      · exact q0.trans (show (115 : Int) = (115 : Int32).toInt from by decide +kernel)
      · exact q1.trans (show (116 : Int) = (116 : Int32).toInt from by decide +kernel)
      · exact q2.trans (show (114 : Int) = (114 : Int32).toInt from by decide +kernel)
      · exact q3.trans (show (105 : Int) = (105 : Int32).toInt from by decide +kernel)
      · exact q4.trans (show (107 : Int) = (107 : Int32).toInt from by decide +kernel)
      · exact q5.trans (show (101 : Int) = (101 : Int32).toInt from by decide +kernel)
  rw [c] at h; exact h
theorem cw_water {t : Nat → Int} {s e R : Int} (h : (R = 1 ∧ WdG t s e (5 : Int32).toInt (lt6 119 97 116 101 114 0)) ∨ (R = 0 ∧ ¬ WdG t s e (5 : Int32).toInt (lt6 119 97 116 101 114 0))) : (R = 1 ∧ w_water t s e) ∨ (R = 0 ∧ ¬ w_water t s e) := by
  have hm : (5 : Int32).toInt = 5 := (by decide)
  have c : WdG t s e (5 : Int32).toInt (lt6 119 97 116 101 114 0) ↔ w_water t s e := by
    constructor
    · intro h
      exact ⟨h.1.trans hm, (h.2 0 (by omega)).trans (show (119 : Int32).toInt = 119 from by decide +kernel), (h.2 1 (by omega)).trans (show (97 : Int32).toInt = 97 from by decide +kernel), (h.2 2 (by omega)).trans (show (116 : Int32).toInt = 116 from by decide +kernel), (h.2 3 (by omega)).trans (show (101 : Int32).toInt = 101 from by decide +kernel), (h.2 4 (by omega)).trans (show (114 : Int32).toInt = 114 from by decide +kernel)⟩
    · intro h
      obtain ⟨h0, q0, q1, q2, q3, q4⟩ := h
      refine ⟨h0.trans hm.symm, fun j hj => ?_⟩
      rcases (by omega : j = 0 ∨ j = 1 ∨ j = 2 ∨ j = 3 ∨ j = 4) with rfl | rfl | rfl | rfl | rfl
      · exact q0.trans (show (119 : Int) = (119 : Int32).toInt from by decide +kernel)
      · exact q1.trans (show (97 : Int) = (97 : Int32).toInt from by decide +kernel)
      · exact q2.trans (show (116 : Int) = (116 : Int32).toInt from by decide +kernel)
      · exact q3.trans (show (101 : Int) = (101 : Int32).toInt from by decide +kernel)
      · exact q4.trans (show (114 : Int) = (114 : Int32).toInt from by decide +kernel)
  rw [c] at h; exact h
theorem cw_skeins {t : Nat → Int} {s e R : Int} (h : (R = 1 ∧ WdG t s e (6 : Int32).toInt (lt6 115 107 101 105 110 115)) ∨ (R = 0 ∧ ¬ WdG t s e (6 : Int32).toInt (lt6 115 107 101 105 110 115))) : (R = 1 ∧ w_skeins t s e) ∨ (R = 0 ∧ ¬ w_skeins t s e) := by
  have hm : (6 : Int32).toInt = 6 := (by decide)
  have c : WdG t s e (6 : Int32).toInt (lt6 115 107 101 105 110 115) ↔ w_skeins t s e := by
    constructor
    · intro h
      exact ⟨h.1.trans hm, (h.2 0 (by omega)).trans (show (115 : Int32).toInt = 115 from by decide +kernel), (h.2 1 (by omega)).trans (show (107 : Int32).toInt = 107 from by decide +kernel), (h.2 2 (by omega)).trans (show (101 : Int32).toInt = 101 from by decide +kernel), (h.2 3 (by omega)).trans (show (105 : Int32).toInt = 105 from by decide +kernel), (h.2 4 (by omega)).trans (show (110 : Int32).toInt = 110 from by decide +kernel), (h.2 5 (by omega)).trans (show (115 : Int32).toInt = 115 from by decide +kernel)⟩
    · intro h
      obtain ⟨h0, q0, q1, q2, q3, q4, q5⟩ := h
      refine ⟨h0.trans hm.symm, fun j hj => ?_⟩
      rcases (by omega : j = 0 ∨ j = 1 ∨ j = 2 ∨ j = 3 ∨ j = 4 ∨ j = 5) with rfl | rfl | rfl | rfl | rfl | rfl
      · exact q0.trans (show (115 : Int) = (115 : Int32).toInt from by decide +kernel)
      · exact q1.trans (show (107 : Int) = (107 : Int32).toInt from by decide +kernel)
      · exact q2.trans (show (101 : Int) = (101 : Int32).toInt from by decide +kernel)
      · exact q3.trans (show (105 : Int) = (105 : Int32).toInt from by decide +kernel)
      · exact q4.trans (show (110 : Int) = (110 : Int32).toInt from by decide +kernel)
      · exact q5.trans (show (115 : Int) = (115 : Int32).toInt from by decide +kernel)
  rw [c] at h; exact h
theorem cw_part {t : Nat → Int} {s e R : Int} (h : (R = 1 ∧ WdG t s e (4 : Int32).toInt (lt6 112 97 114 116 0 0)) ∨ (R = 0 ∧ ¬ WdG t s e (4 : Int32).toInt (lt6 112 97 114 116 0 0))) : (R = 1 ∧ w_part t s e) ∨ (R = 0 ∧ ¬ w_part t s e) := by
  have hm : (4 : Int32).toInt = 4 := (by decide)
  have c : WdG t s e (4 : Int32).toInt (lt6 112 97 114 116 0 0) ↔ w_part t s e := by
    constructor
    · intro h
      exact ⟨h.1.trans hm, (h.2 0 (by omega)).trans (show (112 : Int32).toInt = 112 from by decide +kernel), (h.2 1 (by omega)).trans (show (97 : Int32).toInt = 97 from by decide +kernel), (h.2 2 (by omega)).trans (show (114 : Int32).toInt = 114 from by decide +kernel), (h.2 3 (by omega)).trans (show (116 : Int32).toInt = 116 from by decide +kernel)⟩
    · intro h
      obtain ⟨h0, q0, q1, q2, q3⟩ := h
      refine ⟨h0.trans hm.symm, fun j hj => ?_⟩
      rcases (by omega : j = 0 ∨ j = 1 ∨ j = 2 ∨ j = 3) with rfl | rfl | rfl | rfl
      · exact q0.trans (show (112 : Int) = (112 : Int32).toInt from by decide +kernel)
      · exact q1.trans (show (97 : Int) = (97 : Int32).toInt from by decide +kernel)
      · exact q2.trans (show (114 : Int) = (114 : Int32).toInt from by decide +kernel)
      · exact q3.trans (show (116 : Int) = (116 : Int32).toInt from by decide +kernel)
  rw [c] at h; exact h
theorem cw_looks {t : Nat → Int} {s e R : Int} (h : (R = 1 ∧ WdG t s e (5 : Int32).toInt (lt6 108 111 111 107 115 0)) ∨ (R = 0 ∧ ¬ WdG t s e (5 : Int32).toInt (lt6 108 111 111 107 115 0))) : (R = 1 ∧ w_looks t s e) ∨ (R = 0 ∧ ¬ w_looks t s e) := by
  have hm : (5 : Int32).toInt = 5 := (by decide)
  have c : WdG t s e (5 : Int32).toInt (lt6 108 111 111 107 115 0) ↔ w_looks t s e := by
    constructor
    · intro h
      exact ⟨h.1.trans hm, (h.2 0 (by omega)).trans (show (108 : Int32).toInt = 108 from by decide +kernel), (h.2 1 (by omega)).trans (show (111 : Int32).toInt = 111 from by decide +kernel), (h.2 2 (by omega)).trans (show (111 : Int32).toInt = 111 from by decide +kernel), (h.2 3 (by omega)).trans (show (107 : Int32).toInt = 107 from by decide +kernel), (h.2 4 (by omega)).trans (show (115 : Int32).toInt = 115 from by decide +kernel)⟩
    · intro h
      obtain ⟨h0, q0, q1, q2, q3, q4⟩ := h
      refine ⟨h0.trans hm.symm, fun j hj => ?_⟩
      rcases (by omega : j = 0 ∨ j = 1 ∨ j = 2 ∨ j = 3 ∨ j = 4) with rfl | rfl | rfl | rfl | rfl
      · exact q0.trans (show (108 : Int) = (108 : Int32).toInt from by decide +kernel)
      · exact q1.trans (show (111 : Int) = (111 : Int32).toInt from by decide +kernel)
      · exact q2.trans (show (111 : Int) = (111 : Int32).toInt from by decide +kernel)
      · exact q3.trans (show (107 : Int) = (107 : Int32).toInt from by decide +kernel)
      · exact q4.trans (show (115 : Int) = (115 : Int32).toInt from by decide +kernel)
  rw [c] at h; exact h
theorem cw_fee {t : Nat → Int} {s e R : Int} (h : (R = 1 ∧ WdG t s e (3 : Int32).toInt (lt6 102 101 101 0 0 0)) ∨ (R = 0 ∧ ¬ WdG t s e (3 : Int32).toInt (lt6 102 101 101 0 0 0))) : (R = 1 ∧ w_fee t s e) ∨ (R = 0 ∧ ¬ w_fee t s e) := by
  have hm : (3 : Int32).toInt = 3 := (by decide)
  have c : WdG t s e (3 : Int32).toInt (lt6 102 101 101 0 0 0) ↔ w_fee t s e := by
    constructor
    · intro h
      exact ⟨h.1.trans hm, (h.2 0 (by omega)).trans (show (102 : Int32).toInt = 102 from by decide +kernel), (h.2 1 (by omega)).trans (show (101 : Int32).toInt = 101 from by decide +kernel), (h.2 2 (by omega)).trans (show (101 : Int32).toInt = 101 from by decide +kernel)⟩
    · intro h
      obtain ⟨h0, q0, q1, q2⟩ := h
      refine ⟨h0.trans hm.symm, fun j hj => ?_⟩
      rcases (by omega : j = 0 ∨ j = 1 ∨ j = 2) with rfl | rfl | rfl
      · exact q0.trans (show (102 : Int) = (102 : Int32).toInt from by decide +kernel)
      · exact q1.trans (show (101 : Int) = (101 : Int32).toInt from by decide +kernel)
      · exact q2.trans (show (101 : Int) = (101 : Int32).toInt from by decide +kernel)
  rw [c] at h; exact h
theorem cw_mean {t : Nat → Int} {s e R : Int} (h : (R = 1 ∧ WdG t s e (4 : Int32).toInt (lt6 109 101 97 110 0 0)) ∨ (R = 0 ∧ ¬ WdG t s e (4 : Int32).toInt (lt6 109 101 97 110 0 0))) : (R = 1 ∧ w_mean t s e) ∨ (R = 0 ∧ ¬ w_mean t s e) := by
  have hm : (4 : Int32).toInt = 4 := (by decide)
  have c : WdG t s e (4 : Int32).toInt (lt6 109 101 97 110 0 0) ↔ w_mean t s e := by
    constructor
    · intro h
      exact ⟨h.1.trans hm, (h.2 0 (by omega)).trans (show (109 : Int32).toInt = 109 from by decide +kernel), (h.2 1 (by omega)).trans (show (101 : Int32).toInt = 101 from by decide +kernel), (h.2 2 (by omega)).trans (show (97 : Int32).toInt = 97 from by decide +kernel), (h.2 3 (by omega)).trans (show (110 : Int32).toInt = 110 from by decide +kernel)⟩
    · intro h
      obtain ⟨h0, q0, q1, q2, q3⟩ := h
      refine ⟨h0.trans hm.symm, fun j hj => ?_⟩
      rcases (by omega : j = 0 ∨ j = 1 ∨ j = 2 ∨ j = 3) with rfl | rfl | rfl | rfl
      · exact q0.trans (show (109 : Int) = (109 : Int32).toInt from by decide +kernel)
      · exact q1.trans (show (101 : Int) = (101 : Int32).toInt from by decide +kernel)
      · exact q2.trans (show (97 : Int) = (97 : Int32).toInt from by decide +kernel)
      · exact q3.trans (show (110 : Int) = (110 : Int32).toInt from by decide +kernel)
  rw [c] at h; exact h
theorem cw_least {t : Nat → Int} {s e R : Int} (h : (R = 1 ∧ WdG t s e (5 : Int32).toInt (lt6 108 101 97 115 116 0)) ∨ (R = 0 ∧ ¬ WdG t s e (5 : Int32).toInt (lt6 108 101 97 115 116 0))) : (R = 1 ∧ w_least t s e) ∨ (R = 0 ∧ ¬ w_least t s e) := by
  have hm : (5 : Int32).toInt = 5 := (by decide)
  have c : WdG t s e (5 : Int32).toInt (lt6 108 101 97 115 116 0) ↔ w_least t s e := by
    constructor
    · intro h
      exact ⟨h.1.trans hm, (h.2 0 (by omega)).trans (show (108 : Int32).toInt = 108 from by decide +kernel), (h.2 1 (by omega)).trans (show (101 : Int32).toInt = 101 from by decide +kernel), (h.2 2 (by omega)).trans (show (97 : Int32).toInt = 97 from by decide +kernel), (h.2 3 (by omega)).trans (show (115 : Int32).toInt = 115 from by decide +kernel), (h.2 4 (by omega)).trans (show (116 : Int32).toInt = 116 from by decide +kernel)⟩
    · intro h
      obtain ⟨h0, q0, q1, q2, q3, q4⟩ := h
      refine ⟨h0.trans hm.symm, fun j hj => ?_⟩
      rcases (by omega : j = 0 ∨ j = 1 ∨ j = 2 ∨ j = 3 ∨ j = 4) with rfl | rfl | rfl | rfl | rfl
      · exact q0.trans (show (108 : Int) = (108 : Int32).toInt from by decide +kernel)
      · exact q1.trans (show (101 : Int) = (101 : Int32).toInt from by decide +kernel)
      · exact q2.trans (show (97 : Int) = (97 : Int32).toInt from by decide +kernel)
      · exact q3.trans (show (115 : Int) = (115 : Int32).toInt from by decide +kernel)
      · exact q4.trans (show (116 : Int) = (116 : Int32).toInt from by decide +kernel)
  rw [c] at h; exact h
theorem cw_middle {t : Nat → Int} {s e R : Int} (h : (R = 1 ∧ WdG t s e (6 : Int32).toInt (lt6 109 105 100 100 108 101)) ∨ (R = 0 ∧ ¬ WdG t s e (6 : Int32).toInt (lt6 109 105 100 100 108 101))) : (R = 1 ∧ w_middle t s e) ∨ (R = 0 ∧ ¬ w_middle t s e) := by
  have hm : (6 : Int32).toInt = 6 := (by decide)
  have c : WdG t s e (6 : Int32).toInt (lt6 109 105 100 100 108 101) ↔ w_middle t s e := by
    constructor
    · intro h
      exact ⟨h.1.trans hm, (h.2 0 (by omega)).trans (show (109 : Int32).toInt = 109 from by decide +kernel), (h.2 1 (by omega)).trans (show (105 : Int32).toInt = 105 from by decide +kernel), (h.2 2 (by omega)).trans (show (100 : Int32).toInt = 100 from by decide +kernel), (h.2 3 (by omega)).trans (show (100 : Int32).toInt = 100 from by decide +kernel), (h.2 4 (by omega)).trans (show (108 : Int32).toInt = 108 from by decide +kernel), (h.2 5 (by omega)).trans (show (101 : Int32).toInt = 101 from by decide +kernel)⟩
    · intro h
      obtain ⟨h0, q0, q1, q2, q3, q4, q5⟩ := h
      refine ⟨h0.trans hm.symm, fun j hj => ?_⟩
      rcases (by omega : j = 0 ∨ j = 1 ∨ j = 2 ∨ j = 3 ∨ j = 4 ∨ j = 5) with rfl | rfl | rfl | rfl | rfl | rfl
      · exact q0.trans (show (109 : Int) = (109 : Int32).toInt from by decide +kernel)
      · exact q1.trans (show (105 : Int) = (105 : Int32).toInt from by decide +kernel)
      · exact q2.trans (show (100 : Int) = (100 : Int32).toInt from by decide +kernel)
      · exact q3.trans (show (100 : Int) = (100 : Int32).toInt from by decide +kernel)
      · exact q4.trans (show (108 : Int) = (108 : Int32).toInt from by decide +kernel)
      · exact q5.trans (show (101 : Int) = (101 : Int32).toInt from by decide +kernel)
  rw [c] at h; exact h
theorem cw_to {t : Nat → Int} {s e R : Int} (h : (R = 1 ∧ WdG t s e (2 : Int32).toInt (lt6 116 111 0 0 0 0)) ∨ (R = 0 ∧ ¬ WdG t s e (2 : Int32).toInt (lt6 116 111 0 0 0 0))) : (R = 1 ∧ w_to t s e) ∨ (R = 0 ∧ ¬ w_to t s e) := by
  have hm : (2 : Int32).toInt = 2 := (by decide)
  have c : WdG t s e (2 : Int32).toInt (lt6 116 111 0 0 0 0) ↔ w_to t s e := by
    constructor
    · intro h
      exact ⟨h.1.trans hm, (h.2 0 (by omega)).trans (show (116 : Int32).toInt = 116 from by decide +kernel), (h.2 1 (by omega)).trans (show (111 : Int32).toInt = 111 from by decide +kernel)⟩
    · intro h
      obtain ⟨h0, q0, q1⟩ := h
      refine ⟨h0.trans hm.symm, fun j hj => ?_⟩
      rcases (by omega : j = 0 ∨ j = 1) with rfl | rfl
      · exact q0.trans (show (116 : Int) = (116 : Int32).toInt from by decide +kernel)
      · exact q1.trans (show (111 : Int) = (111 : Int32).toInt from by decide +kernel)
  rw [c] at h; exact h
set_option maxHeartbeats 4000000 in
set_option maxRecDepth 100000 in
/-- X12_isWord -/
theorem c_X12_isWord_g (l : Launch) (dC : Nat → ClassId) (dI : Nat → Nat → Nat) (h : Nat) (g : Nat → Nat → Nat) (ca : Nat → Nat → ClassId) (iv : Nat → Nat → Int32) (lv : Nat → Nat → Int64) (fa : Nat → Nat → Nat → Int32) (la : Nat → Nat → Nat → Int64) (hI : IX iv fa) (mm : Int32) (a : Int32) (b : Int32) (d : Int32) (k : Int32) (n : Int32) (q : Int32) (h_mm : 2 ≤ mm.toInt ∧ mm.toInt ≤ 6) (h_a : 0 ≤ a.toInt ∧ a.toInt ≤ 127) (h_b : 0 ≤ b.toInt ∧ b.toInt ≤ 127) (h_d : 0 ≤ d.toInt ∧ d.toInt ≤ 127) (h_k : 0 ≤ k.toInt ∧ k.toInt ≤ 127) (h_n : 0 ≤ n.toInt ∧ n.toInt ≤ 127) (h_q : 0 ≤ q.toInt ∧ q.toInt ≤ 127) (p_0 : (iv 12 37).toInt + (iv 12 38).toInt ≤ 200) : Met l yX12_isWord (wc yX12_isWord cX12_isWord 10 (some .boolean)) ({ frames := 0, cells := 0, slots := 0, locals := 0 } : Room) (pR (dC, dI) classes (WM h g ca iv lv fa la) (TM ca) [.ref h, .int mm, .int a, .int b, .int d, .int k, .int n, .int q]) (vp_Si (fun r => (0 ≤ r.toInt ∧ r.toInt ≤ 1) ∧ (((r.toInt = 1 ∧ WdG (fun j => sg ((fa 12 32) j).toInt) (iv 12 37).toInt ((iv 12 37).toInt + (iv 12 38).toInt) mm.toInt (lt6 a b d k n q)) ∨ (r.toInt = 0 ∧ ¬ WdG (fun j => sg ((fa 12 32) j).toInt) (iv 12 37).toInt ((iv 12 37).toInt + (iv 12 38).toInt) mm.toInt (lt6 a b d k n q)))) ∧ ((r.toInt = 0 ∨ (iv 12 38).toInt = mm.toInt)))) 0 0 (fun _ => False) := by
  refine Met.ofW (cc := cX12_isWord) (maxL := 10) (ret := (some .boolean)) (by decide) rfl ?_
  intro p e s m args below meth c s₁ B hml hv
  obtain ⟨rfl, hP, hK⟩ := hv
  have hx := B.exec
  have hb := B.bytes
  have hr := B.returns
  have ht := tb_tl (atoms_spec (ws := wc yX12_isWord cX12_isWord 10 (some .boolean)) B.pre)
  have hown : s.vm.findClass RX12 = some m.cls := findClass_of_methodNamed B.named
  have hlocks := B.notSynchronized
  have hl := lv_entry [.ref h, .int mm, .int a, .int b, .int d, .int k, .int n, .int q] (n := 10) (Nat.le_of_ble_eq_true rfl)
  rw [lg_entry_eq]
  generalize (lg_sl [.ref h, .int mm, .int a, .int b, .int d, .int k, .int n, .int q] ++ List.replicate (10 - (lg_sl [.ref h, .int mm, .int a, .int b, .int d, .int k, .int n, .int q]).length) Slot.unset).toArray = ls at hl ⊢
  have hl : lv_has ls 10 [(0, .ref h), (1, .int mm), (2, .int a), (3, .int b), (4, .int d), (5, .int k), (6, .int n), (7, .int q)] := hl
  refine lv_aload_n hx hb dX12_isWord_0 rfl (lv_at hl 0 rfl) ?_
  have i_12_38 : 0 ≤ (iv 12 38).toInt ∧ (iv 12 38).toInt ≤ 200 := hI.1 12 38
  refine gM_12_38 hx hb ht hown hK hP m_1177 (v := (iv 12 38)) rfl dX12_isWord_1 ?_
  refine lv_iload_n hx hb dX12_isWord_4 rfl (lv_at hl 1 rfl) ?_
  refine lv_icmp_ne (tgt := 12) hx hb dX12_isWord_5 (by decide) (fun c1 => ?_) (fun c1 => ?_)
  · have fc1 := z_ne (rfl : ((iv 12 38)).toInt = _) (rfl : (mm).toInt = _) c1
    refine lv_iconst (v := 0) hx hb dX12_isWord_12 (by decide) ?_
    refine lv_istore (lv' := [(8, .int 0), (0, .ref h), (1, .int mm), (2, .int a), (3, .int b), (4, .int d), (5, .int k), (6, .int n), (7, .int q)]) hx hb dX12_isWord_13 hl (by decide) rfl (fun ls hl => ?_)
    refine lv_iconst (v := 0) hx hb dX12_isWord_15 (by decide) ?_
    refine lv_istore (lv' := [(9, .int 0), (8, .int 0), (0, .ref h), (1, .int mm), (2, .int a), (3, .int b), (4, .int d), (5, .int k), (6, .int n), (7, .int q)]) hx hb dX12_isWord_16 hl (by decide) rfl (fun ls hl => ?_)
    have i_12_37 : 0 ≤ (iv 12 37).toInt ∧ (iv 12 37).toInt ≤ 200 := hI.1 12 37
    have lp169 : ∀ (nn169 : Nat) (x168_9 : Int32) (x168_8 : Int32), 0 ≤ x168_9.toInt ∧ x168_9.toInt ≤ 6 → 0 ≤ x168_8.toInt ∧ x168_8.toInt ≤ 1 → ((((x168_8 : Int32).toInt = 1 ∧ ((iv 12 38) : Int32).toInt = (mm).toInt ∧ ∀ j : Nat, (j : Int) < (x168_9 : Int32).toInt → (fun j => sg ((fa 12 32) j).toInt) ((((iv 12 37) : Int32).toInt).toNat + j) = (lt6 a b d k n q) j) ∨ ((x168_8 : Int32).toInt = 0 ∧ ¬ WdG (fun j => sg ((fa 12 32) j).toInt) ((iv 12 37) : Int32).toInt (((iv 12 37) : Int32).toInt + ((iv 12 38) : Int32).toInt) (mm).toInt (lt6 a b d k n q)))) → ((x168_8 : Int32).toInt = 0 ∨ ((iv 12 38) : Int32).toInt = (mm).toInt) → 6 - x168_9.toInt < (nn169 : Int) → ∀ (ls : Array Slot), lv_has ls 10 [(9, .int x168_9), (8, .int x168_8), (0, .ref h), (1, .int mm), (2, .int a), (3, .int b), (4, .int d), (5, .int k), (6, .int n), (7, .int q)] → W p l e ({ frames := 0, cells := 0, slots := 0, locals := 0 } : Room) s m ([.ref h, .int mm, .int a, .int b, .int d, .int k, .int n, .int q] : List Value).toArray below meth c s.heap [] 0 0 (MQ below (vp_Si (fun r => (0 ≤ r.toInt ∧ r.toInt ≤ 1) ∧ (((r.toInt = 1 ∧ WdG (fun j => sg ((fa 12 32) j).toInt) (iv 12 37).toInt ((iv 12 37).toInt + (iv 12 38).toInt) mm.toInt (lt6 a b d k n q)) ∨ (r.toInt = 0 ∧ ¬ WdG (fun j => sg ((fa 12 32) j).toInt) (iv 12 37).toInt ((iv 12 37).toInt + (iv 12 38).toInt) mm.toInt (lt6 a b d k n q)))) ∧ ((r.toInt = 0 ∨ (iv 12 38).toInt = mm.toInt)))) ([.ref h, .int mm, .int a, .int b, .int d, .int k, .int n, .int q] : List Value).toArray s 0 0 (fun _ => False)) (F0 m 18 ls []) := by
      intro nn169
      induction nn169 with
      | zero => intro x168_9 x168_8 hx168_9 hx168_8 hq169_0 hq169_1 hm169; exfalso; omega
      | succ nn169 ih169 =>
        intro x168_9 x168_8 hx168_9 hx168_8 hq169_0 hq169_1 hm169 ls hl
        refine lv_iload hx hb dX12_isWord_18 (lv_at hl 0 rfl) ?_
        refine lv_iload_n hx hb dX12_isWord_20 rfl (lv_at hl 3 rfl) ?_
        refine lv_icmp_ge (tgt := 111) hx hb dX12_isWord_21 (by decide) (fun c170 => ?_) (fun c170 => ?_)
        · have fc170 := z_le (rfl : (mm).toInt = _) (rfl : (x168_9).toInt = _) c170
          refine lv_iload hx hb dX12_isWord_111 (lv_at hl 1 rfl) ?_
          exact W.zret (v := x168_8) hx hb hr (nar01 ⟨by omega, by omega⟩) (fun t ht9 hW => ⟨x168_8, rfl, ⟨⟨by omega, by omega⟩, (show (((x168_8 : Int32).toInt = 1 ∧ WdG (fun j => sg ((fa 12 32) j).toInt) ((iv 12 37) : Int32).toInt (((iv 12 37) : Int32).toInt + ((iv 12 38) : Int32).toInt) (mm).toInt (lt6 a b d k n q)) ∨ ((x168_8 : Int32).toInt = 0 ∧ ¬ WdG (fun j => sg ((fa 12 32) j).toInt) ((iv 12 37) : Int32).toInt (((iv 12 37) : Int32).toInt + ((iv 12 38) : Int32).toInt) (mm).toInt (lt6 a b d k n q))) from (by
                rcases hq169_0 with ⟨h1, h2, h3⟩ | ⟨h1, h2⟩
                · exact Or.inl ⟨by omega, by omega, fun j hj => h3 j (by omega)⟩
                · exact Or.inr ⟨by omega, h2⟩)), (show ((x168_8 : Int32).toInt = 0 ∨ ((iv 12 38) : Int32).toInt = (mm).toInt) from by omega)⟩, ht9⟩) (fun q hq => by cases hq) dX12_isWord_113
        · have fc170 := z_nle (rfl : (mm).toInt = _) (rfl : (x168_9).toInt = _) c170
          refine lv_iload hx hb dX12_isWord_24 (lv_at hl 1 rfl) ?_
          refine lv_if_eq (tgt := 111) hx hb dX12_isWord_26 (by decide) (fun c171 => ?_) (fun c171 => ?_)
          · have fc171 := z_eq (rfl : (x168_8).toInt = _) (by decide : (0 : Int32).toInt = 0) c171
            refine lv_iload hx hb dX12_isWord_111 (lv_at hl 1 rfl) ?_
            exact W.zret (v := x168_8) hx hb hr (nar01 ⟨by omega, by omega⟩) (fun t ht9 hW => ⟨x168_8, rfl, ⟨⟨by omega, by omega⟩, (show (((x168_8 : Int32).toInt = 1 ∧ WdG (fun j => sg ((fa 12 32) j).toInt) ((iv 12 37) : Int32).toInt (((iv 12 37) : Int32).toInt + ((iv 12 38) : Int32).toInt) (mm).toInt (lt6 a b d k n q)) ∨ ((x168_8 : Int32).toInt = 0 ∧ ¬ WdG (fun j => sg ((fa 12 32) j).toInt) ((iv 12 37) : Int32).toInt (((iv 12 37) : Int32).toInt + ((iv 12 38) : Int32).toInt) (mm).toInt (lt6 a b d k n q))) from (by
                  rcases hq169_0 with ⟨h1, h2, h3⟩ | ⟨h1, h2⟩
                  · exact Or.inl ⟨by omega, by omega, fun j hj => h3 j (by omega)⟩
                  · exact Or.inr ⟨by omega, h2⟩)), (show ((x168_8 : Int32).toInt = 0 ∨ ((iv 12 38) : Int32).toInt = (mm).toInt) from by omega)⟩, ht9⟩) (fun q hq => by cases hq) dX12_isWord_113
          · have fc171 := z_ne (rfl : (x168_8).toInt = _) (by decide : (0 : Int32).toInt = 0) c171
            refine lv_aload_n hx hb dX12_isWord_29 rfl (lv_at hl 2 rfl) ?_
            refine gM_12_32 hx hb ht hown hK hP m_1171 dX12_isWord_30 ?_
            refine lv_aload_n hx hb dX12_isWord_33 rfl (lv_at hl 2 rfl) ?_
            refine gM_12_37 hx hb ht hown hK hP m_1176 (v := (iv 12 37)) rfl dX12_isWord_34 ?_
            refine lv_iload hx hb dX12_isWord_37 (lv_at hl 0 rfl) ?_
            refine lv_iadd hx hb dX12_isWord_39 ?_
            refine lv_topi (fun v172 ev172 => ?_)
            have tv172 := z_add ev172 (rfl : ((iv 12 37)).toInt = _) (rfl : (x168_9).toInt = _) (by omega) (by omega)
            have : 0 ≤ (v172 : Int32).toInt ∧ (v172 : Int32).toInt ≤ 199 := ⟨by omega, by omega⟩
            refine lM_12_32 hx hb hK hP (f := (fa 12 32)) rfl (vp_in_iff.mpr ⟨by omega, by omega⟩) dX12_isWord_40 ?_
            refine lv_topi (fun v173 ev173 => ?_)
            refine lv_iload hx hb dX12_isWord_41 (lv_at hl 0 rfl) ?_
            refine lv_if_ne (tgt := 50) hx hb dX12_isWord_43 (by decide) (fun c174 => ?_) (fun c174 => ?_)
            · have fc174 := z_ne (rfl : (x168_9).toInt = _) (by decide : (0 : Int32).toInt = 0) c174
              refine lv_iload hx hb dX12_isWord_50 (lv_at hl 0 rfl) ?_
              refine lv_iconst (v := 1) hx hb dX12_isWord_52 (by decide) ?_
              refine lv_icmp_ne (tgt := 60) hx hb dX12_isWord_53 (by decide) (fun c175 => ?_) (fun c175 => ?_)
              · have fc175 := z_ne (rfl : (x168_9).toInt = _) (by decide : (1 : Int32).toInt = 1) c175
                refine lv_iload hx hb dX12_isWord_60 (lv_at hl 0 rfl) ?_
                refine lv_iconst (v := 2) hx hb dX12_isWord_62 (by decide) ?_
                refine lv_icmp_ne (tgt := 71) hx hb dX12_isWord_63 (by decide) (fun c176 => ?_) (fun c176 => ?_)
                · have fc176 := z_ne (rfl : (x168_9).toInt = _) (by decide : (2 : Int32).toInt = 2) c176
                  refine lv_iload hx hb dX12_isWord_71 (lv_at hl 0 rfl) ?_
                  refine lv_iconst (v := 3) hx hb dX12_isWord_73 (by decide) ?_
                  refine lv_icmp_ne (tgt := 82) hx hb dX12_isWord_74 (by decide) (fun c177 => ?_) (fun c177 => ?_)
                  · have fc177 := z_ne (rfl : (x168_9).toInt = _) (by decide : (3 : Int32).toInt = 3) c177
                    refine lv_iload hx hb dX12_isWord_82 (lv_at hl 0 rfl) ?_
                    refine lv_iconst (v := 4) hx hb dX12_isWord_84 (by decide) ?_
                    refine lv_icmp_ne (tgt := 93) hx hb dX12_isWord_85 (by decide) (fun c178 => ?_) (fun c178 => ?_)
                    · have fc178 := z_ne (rfl : (x168_9).toInt = _) (by decide : (4 : Int32).toInt = 4) c178
                      refine lv_iload hx hb dX12_isWord_93 (lv_at hl 9 rfl) ?_
                      refine lv_icmp_ne (tgt := 102) hx hb dX12_isWord_95 (by decide) (fun c179 => ?_) (fun c179 => ?_)
                      · have fc179 := z_ne (rfl : (v173).toInt = _) (rfl : (q).toInt = _) c179
                        refine lv_iconst (v := 0) hx hb dX12_isWord_102 (by decide) ?_
                        refine lv_istore (lv' := [(8, .int 0), (9, .int x168_9), (0, .ref h), (1, .int mm), (2, .int a), (3, .int b), (4, .int d), (5, .int k), (6, .int n), (7, .int q)]) hx hb dX12_isWord_103 hl (by decide) rfl (fun ls hl => ?_)
                        obtain ⟨v180, ev180⟩ : ∃ y : Int32, y = x168_9 + 1 := ⟨_, rfl⟩
                        have tv180 := z_add ev180 rfl (by decide : (1 : Int32).toInt = 1) (by omega) (by omega)
                        refine lv_iinc (v := v180) (lv' := [(9, .int v180), (8, .int 0), (0, .ref h), (1, .int mm), (2, .int a), (3, .int b), (4, .int d), (5, .int k), (6, .int n), (7, .int q)]) hx hb dX12_isWord_105 hl (k := 1) rfl (by rw [ev180]; rfl) (by decide) rfl (fun ls hl => ?_)
                        refine lv_goto (tgt := 18) hx hb dX12_isWord_108 (by decide) ?_
                        have : (0 : Int32).toInt = 0 := (by decide)
                        exact ih169 v180 0 ⟨by omega, by omega⟩ ⟨by decide, by decide⟩ (show (((0 : Int32).toInt = 1 ∧ ((iv 12 38) : Int32).toInt = (mm).toInt ∧ ∀ j : Nat, (j : Int) < (v180 : Int32).toInt → (fun j => sg ((fa 12 32) j).toInt) ((((iv 12 37) : Int32).toInt).toNat + j) = (lt6 a b d k n q) j) ∨ ((0 : Int32).toInt = 0 ∧ ¬ WdG (fun j => sg ((fa 12 32) j).toInt) ((iv 12 37) : Int32).toInt (((iv 12 37) : Int32).toInt + ((iv 12 38) : Int32).toInt) (mm).toInt (lt6 a b d k n q))) from (by
                              refine Or.inr ⟨by omega, fun h9 => ?_⟩
                              obtain ⟨-, h8⟩ := h9
                              have h7 : sg (fa 12 32 ((iv 12 37).toInt.toNat + 5)).toInt = (q : Int32).toInt := h8 5 (by omega)
                              have q0 := congrArg Int32.toInt (ev173.trans (congrArg (fa 12 32) (show (v172 : Int32).toNatClampNeg = (iv 12 37).toInt.toNat + 5 from (by show (v172 : Int32).toInt.toNat = _; omega))))
                              have s0 := sg_i (v173 : Int32).toInt
                              rw [q0] at s0
                              omega)) (show ((0 : Int32).toInt = 0 ∨ ((iv 12 38) : Int32).toInt = (mm).toInt) from by omega) (by omega) ls (lv_sub hl [0, 1, 2, 3, 4, 5, 6, 7, 8, 9] rfl)
                      · have fc179 := z_eq (rfl : (v173).toInt = _) (rfl : (q).toInt = _) c179
                        refine lv_iconst (v := 1) hx hb dX12_isWord_98 (by decide) ?_
                        refine lv_goto (tgt := 103) hx hb dX12_isWord_99 (by decide) ?_
                        refine lv_istore (lv' := [(8, .int 1), (9, .int x168_9), (0, .ref h), (1, .int mm), (2, .int a), (3, .int b), (4, .int d), (5, .int k), (6, .int n), (7, .int q)]) hx hb dX12_isWord_103 hl (by decide) rfl (fun ls hl => ?_)
                        obtain ⟨v181, ev181⟩ : ∃ y : Int32, y = x168_9 + 1 := ⟨_, rfl⟩
                        have tv181 := z_add ev181 rfl (by decide : (1 : Int32).toInt = 1) (by omega) (by omega)
                        refine lv_iinc (v := v181) (lv' := [(9, .int v181), (8, .int 1), (0, .ref h), (1, .int mm), (2, .int a), (3, .int b), (4, .int d), (5, .int k), (6, .int n), (7, .int q)]) hx hb dX12_isWord_105 hl (k := 1) rfl (by rw [ev181]; rfl) (by decide) rfl (fun ls hl => ?_)
                        refine lv_goto (tgt := 18) hx hb dX12_isWord_108 (by decide) ?_
                        have : (1 : Int32).toInt = 1 := (by decide)
                        exact ih169 v181 1 ⟨by omega, by omega⟩ ⟨by decide, by decide⟩ (show (((1 : Int32).toInt = 1 ∧ ((iv 12 38) : Int32).toInt = (mm).toInt ∧ ∀ j : Nat, (j : Int) < (v181 : Int32).toInt → (fun j => sg ((fa 12 32) j).toInt) ((((iv 12 37) : Int32).toInt).toNat + j) = (lt6 a b d k n q) j) ∨ ((1 : Int32).toInt = 0 ∧ ¬ WdG (fun j => sg ((fa 12 32) j).toInt) ((iv 12 37) : Int32).toInt (((iv 12 37) : Int32).toInt + ((iv 12 38) : Int32).toInt) (mm).toInt (lt6 a b d k n q))) from (by
                              rcases hq169_0 with ⟨h1, h2, h3⟩ | ⟨h1, h2⟩
                              · refine Or.inl ⟨by omega, h2, fun j hj => ?_⟩
                                by_cases hj2 : (j : Int) < (x168_9 : Int32).toInt
                                · exact h3 j hj2
                                · have hj3 : j = 5 := by omega
                                  rw [hj3]
                                  have q0 := congrArg Int32.toInt (ev173.trans (congrArg (fa 12 32) (show (v172 : Int32).toNatClampNeg = (iv 12 37).toInt.toNat + 5 from (by show (v172 : Int32).toInt.toNat = _; omega))))
                                  have s0 := sg_i (v173 : Int32).toInt
                                  rw [q0] at s0
                                  show sg (fa 12 32 ((iv 12 37).toInt.toNat + 5)).toInt = (q : Int32).toInt
                                  omega
                              · exfalso; omega)) (show ((1 : Int32).toInt = 0 ∨ ((iv 12 38) : Int32).toInt = (mm).toInt) from by omega) (by omega) ls (lv_sub hl [0, 1, 2, 3, 4, 5, 6, 7, 8, 9] rfl)
                    · have fc178 := z_eq (rfl : (x168_9).toInt = _) (by decide : (4 : Int32).toInt = 4) c178
                      refine lv_iload hx hb dX12_isWord_88 (lv_at hl 8 rfl) ?_
                      refine lv_goto (tgt := 95) hx hb dX12_isWord_90 (by decide) ?_
                      refine lv_icmp_ne (tgt := 102) hx hb dX12_isWord_95 (by decide) (fun c182 => ?_) (fun c182 => ?_)
                      · have fc182 := z_ne (rfl : (v173).toInt = _) (rfl : (n).toInt = _) c182
                        refine lv_iconst (v := 0) hx hb dX12_isWord_102 (by decide) ?_
                        refine lv_istore (lv' := [(8, .int 0), (9, .int x168_9), (0, .ref h), (1, .int mm), (2, .int a), (3, .int b), (4, .int d), (5, .int k), (6, .int n), (7, .int q)]) hx hb dX12_isWord_103 hl (by decide) rfl (fun ls hl => ?_)
                        obtain ⟨v183, ev183⟩ : ∃ y : Int32, y = x168_9 + 1 := ⟨_, rfl⟩
                        have tv183 := z_add ev183 rfl (by decide : (1 : Int32).toInt = 1) (by omega) (by omega)
                        refine lv_iinc (v := v183) (lv' := [(9, .int v183), (8, .int 0), (0, .ref h), (1, .int mm), (2, .int a), (3, .int b), (4, .int d), (5, .int k), (6, .int n), (7, .int q)]) hx hb dX12_isWord_105 hl (k := 1) rfl (by rw [ev183]; rfl) (by decide) rfl (fun ls hl => ?_)
                        refine lv_goto (tgt := 18) hx hb dX12_isWord_108 (by decide) ?_
                        have : (0 : Int32).toInt = 0 := (by decide)
                        exact ih169 v183 0 ⟨by omega, by omega⟩ ⟨by decide, by decide⟩ (show (((0 : Int32).toInt = 1 ∧ ((iv 12 38) : Int32).toInt = (mm).toInt ∧ ∀ j : Nat, (j : Int) < (v183 : Int32).toInt → (fun j => sg ((fa 12 32) j).toInt) ((((iv 12 37) : Int32).toInt).toNat + j) = (lt6 a b d k n q) j) ∨ ((0 : Int32).toInt = 0 ∧ ¬ WdG (fun j => sg ((fa 12 32) j).toInt) ((iv 12 37) : Int32).toInt (((iv 12 37) : Int32).toInt + ((iv 12 38) : Int32).toInt) (mm).toInt (lt6 a b d k n q))) from (by
                              refine Or.inr ⟨by omega, fun h9 => ?_⟩
                              obtain ⟨-, h8⟩ := h9
                              have h7 : sg (fa 12 32 ((iv 12 37).toInt.toNat + 4)).toInt = (n : Int32).toInt := h8 4 (by omega)
                              have q0 := congrArg Int32.toInt (ev173.trans (congrArg (fa 12 32) (show (v172 : Int32).toNatClampNeg = (iv 12 37).toInt.toNat + 4 from (by show (v172 : Int32).toInt.toNat = _; omega))))
                              have s0 := sg_i (v173 : Int32).toInt
                              rw [q0] at s0
                              omega)) (show ((0 : Int32).toInt = 0 ∨ ((iv 12 38) : Int32).toInt = (mm).toInt) from by omega) (by omega) ls (lv_sub hl [0, 1, 2, 3, 4, 5, 6, 7, 8, 9] rfl)
                      · have fc182 := z_eq (rfl : (v173).toInt = _) (rfl : (n).toInt = _) c182
                        refine lv_iconst (v := 1) hx hb dX12_isWord_98 (by decide) ?_
                        refine lv_goto (tgt := 103) hx hb dX12_isWord_99 (by decide) ?_
                        refine lv_istore (lv' := [(8, .int 1), (9, .int x168_9), (0, .ref h), (1, .int mm), (2, .int a), (3, .int b), (4, .int d), (5, .int k), (6, .int n), (7, .int q)]) hx hb dX12_isWord_103 hl (by decide) rfl (fun ls hl => ?_)
                        obtain ⟨v184, ev184⟩ : ∃ y : Int32, y = x168_9 + 1 := ⟨_, rfl⟩
                        have tv184 := z_add ev184 rfl (by decide : (1 : Int32).toInt = 1) (by omega) (by omega)
                        refine lv_iinc (v := v184) (lv' := [(9, .int v184), (8, .int 1), (0, .ref h), (1, .int mm), (2, .int a), (3, .int b), (4, .int d), (5, .int k), (6, .int n), (7, .int q)]) hx hb dX12_isWord_105 hl (k := 1) rfl (by rw [ev184]; rfl) (by decide) rfl (fun ls hl => ?_)
                        refine lv_goto (tgt := 18) hx hb dX12_isWord_108 (by decide) ?_
                        have : (1 : Int32).toInt = 1 := (by decide)
                        exact ih169 v184 1 ⟨by omega, by omega⟩ ⟨by decide, by decide⟩ (show (((1 : Int32).toInt = 1 ∧ ((iv 12 38) : Int32).toInt = (mm).toInt ∧ ∀ j : Nat, (j : Int) < (v184 : Int32).toInt → (fun j => sg ((fa 12 32) j).toInt) ((((iv 12 37) : Int32).toInt).toNat + j) = (lt6 a b d k n q) j) ∨ ((1 : Int32).toInt = 0 ∧ ¬ WdG (fun j => sg ((fa 12 32) j).toInt) ((iv 12 37) : Int32).toInt (((iv 12 37) : Int32).toInt + ((iv 12 38) : Int32).toInt) (mm).toInt (lt6 a b d k n q))) from (by
                              rcases hq169_0 with ⟨h1, h2, h3⟩ | ⟨h1, h2⟩
                              · refine Or.inl ⟨by omega, h2, fun j hj => ?_⟩
                                by_cases hj2 : (j : Int) < (x168_9 : Int32).toInt
                                · exact h3 j hj2
                                · have hj3 : j = 4 := by omega
                                  rw [hj3]
                                  have q0 := congrArg Int32.toInt (ev173.trans (congrArg (fa 12 32) (show (v172 : Int32).toNatClampNeg = (iv 12 37).toInt.toNat + 4 from (by show (v172 : Int32).toInt.toNat = _; omega))))
                                  have s0 := sg_i (v173 : Int32).toInt
                                  rw [q0] at s0
                                  show sg (fa 12 32 ((iv 12 37).toInt.toNat + 4)).toInt = (n : Int32).toInt
                                  omega
                              · exfalso; omega)) (show ((1 : Int32).toInt = 0 ∨ ((iv 12 38) : Int32).toInt = (mm).toInt) from by omega) (by omega) ls (lv_sub hl [0, 1, 2, 3, 4, 5, 6, 7, 8, 9] rfl)
                  · have fc177 := z_eq (rfl : (x168_9).toInt = _) (by decide : (3 : Int32).toInt = 3) c177
                    refine lv_iload hx hb dX12_isWord_77 (lv_at hl 7 rfl) ?_
                    refine lv_goto (tgt := 95) hx hb dX12_isWord_79 (by decide) ?_
                    refine lv_icmp_ne (tgt := 102) hx hb dX12_isWord_95 (by decide) (fun c185 => ?_) (fun c185 => ?_)
                    · have fc185 := z_ne (rfl : (v173).toInt = _) (rfl : (k).toInt = _) c185
                      refine lv_iconst (v := 0) hx hb dX12_isWord_102 (by decide) ?_
                      refine lv_istore (lv' := [(8, .int 0), (9, .int x168_9), (0, .ref h), (1, .int mm), (2, .int a), (3, .int b), (4, .int d), (5, .int k), (6, .int n), (7, .int q)]) hx hb dX12_isWord_103 hl (by decide) rfl (fun ls hl => ?_)
                      obtain ⟨v186, ev186⟩ : ∃ y : Int32, y = x168_9 + 1 := ⟨_, rfl⟩
                      have tv186 := z_add ev186 rfl (by decide : (1 : Int32).toInt = 1) (by omega) (by omega)
                      refine lv_iinc (v := v186) (lv' := [(9, .int v186), (8, .int 0), (0, .ref h), (1, .int mm), (2, .int a), (3, .int b), (4, .int d), (5, .int k), (6, .int n), (7, .int q)]) hx hb dX12_isWord_105 hl (k := 1) rfl (by rw [ev186]; rfl) (by decide) rfl (fun ls hl => ?_)
                      refine lv_goto (tgt := 18) hx hb dX12_isWord_108 (by decide) ?_
                      have : (0 : Int32).toInt = 0 := (by decide)
                      exact ih169 v186 0 ⟨by omega, by omega⟩ ⟨by decide, by decide⟩ (show (((0 : Int32).toInt = 1 ∧ ((iv 12 38) : Int32).toInt = (mm).toInt ∧ ∀ j : Nat, (j : Int) < (v186 : Int32).toInt → (fun j => sg ((fa 12 32) j).toInt) ((((iv 12 37) : Int32).toInt).toNat + j) = (lt6 a b d k n q) j) ∨ ((0 : Int32).toInt = 0 ∧ ¬ WdG (fun j => sg ((fa 12 32) j).toInt) ((iv 12 37) : Int32).toInt (((iv 12 37) : Int32).toInt + ((iv 12 38) : Int32).toInt) (mm).toInt (lt6 a b d k n q))) from (by
                            refine Or.inr ⟨by omega, fun h9 => ?_⟩
                            obtain ⟨-, h8⟩ := h9
                            have h7 : sg (fa 12 32 ((iv 12 37).toInt.toNat + 3)).toInt = (k : Int32).toInt := h8 3 (by omega)
                            have q0 := congrArg Int32.toInt (ev173.trans (congrArg (fa 12 32) (show (v172 : Int32).toNatClampNeg = (iv 12 37).toInt.toNat + 3 from (by show (v172 : Int32).toInt.toNat = _; omega))))
                            have s0 := sg_i (v173 : Int32).toInt
                            rw [q0] at s0
                            omega)) (show ((0 : Int32).toInt = 0 ∨ ((iv 12 38) : Int32).toInt = (mm).toInt) from by omega) (by omega) ls (lv_sub hl [0, 1, 2, 3, 4, 5, 6, 7, 8, 9] rfl)
                    · have fc185 := z_eq (rfl : (v173).toInt = _) (rfl : (k).toInt = _) c185
                      refine lv_iconst (v := 1) hx hb dX12_isWord_98 (by decide) ?_
                      refine lv_goto (tgt := 103) hx hb dX12_isWord_99 (by decide) ?_
                      refine lv_istore (lv' := [(8, .int 1), (9, .int x168_9), (0, .ref h), (1, .int mm), (2, .int a), (3, .int b), (4, .int d), (5, .int k), (6, .int n), (7, .int q)]) hx hb dX12_isWord_103 hl (by decide) rfl (fun ls hl => ?_)
                      obtain ⟨v187, ev187⟩ : ∃ y : Int32, y = x168_9 + 1 := ⟨_, rfl⟩
                      have tv187 := z_add ev187 rfl (by decide : (1 : Int32).toInt = 1) (by omega) (by omega)
                      refine lv_iinc (v := v187) (lv' := [(9, .int v187), (8, .int 1), (0, .ref h), (1, .int mm), (2, .int a), (3, .int b), (4, .int d), (5, .int k), (6, .int n), (7, .int q)]) hx hb dX12_isWord_105 hl (k := 1) rfl (by rw [ev187]; rfl) (by decide) rfl (fun ls hl => ?_)
                      refine lv_goto (tgt := 18) hx hb dX12_isWord_108 (by decide) ?_
                      have : (1 : Int32).toInt = 1 := (by decide)
                      exact ih169 v187 1 ⟨by omega, by omega⟩ ⟨by decide, by decide⟩ (show (((1 : Int32).toInt = 1 ∧ ((iv 12 38) : Int32).toInt = (mm).toInt ∧ ∀ j : Nat, (j : Int) < (v187 : Int32).toInt → (fun j => sg ((fa 12 32) j).toInt) ((((iv 12 37) : Int32).toInt).toNat + j) = (lt6 a b d k n q) j) ∨ ((1 : Int32).toInt = 0 ∧ ¬ WdG (fun j => sg ((fa 12 32) j).toInt) ((iv 12 37) : Int32).toInt (((iv 12 37) : Int32).toInt + ((iv 12 38) : Int32).toInt) (mm).toInt (lt6 a b d k n q))) from (by
                            rcases hq169_0 with ⟨h1, h2, h3⟩ | ⟨h1, h2⟩
                            · refine Or.inl ⟨by omega, h2, fun j hj => ?_⟩
                              by_cases hj2 : (j : Int) < (x168_9 : Int32).toInt
                              · exact h3 j hj2
                              · have hj3 : j = 3 := by omega
                                rw [hj3]
                                have q0 := congrArg Int32.toInt (ev173.trans (congrArg (fa 12 32) (show (v172 : Int32).toNatClampNeg = (iv 12 37).toInt.toNat + 3 from (by show (v172 : Int32).toInt.toNat = _; omega))))
                                have s0 := sg_i (v173 : Int32).toInt
                                rw [q0] at s0
                                show sg (fa 12 32 ((iv 12 37).toInt.toNat + 3)).toInt = (k : Int32).toInt
                                omega
                            · exfalso; omega)) (show ((1 : Int32).toInt = 0 ∨ ((iv 12 38) : Int32).toInt = (mm).toInt) from by omega) (by omega) ls (lv_sub hl [0, 1, 2, 3, 4, 5, 6, 7, 8, 9] rfl)
                · have fc176 := z_eq (rfl : (x168_9).toInt = _) (by decide : (2 : Int32).toInt = 2) c176
                  refine lv_iload hx hb dX12_isWord_66 (lv_at hl 6 rfl) ?_
                  refine lv_goto (tgt := 95) hx hb dX12_isWord_68 (by decide) ?_
                  refine lv_icmp_ne (tgt := 102) hx hb dX12_isWord_95 (by decide) (fun c188 => ?_) (fun c188 => ?_)
                  · have fc188 := z_ne (rfl : (v173).toInt = _) (rfl : (d).toInt = _) c188
                    refine lv_iconst (v := 0) hx hb dX12_isWord_102 (by decide) ?_
                    refine lv_istore (lv' := [(8, .int 0), (9, .int x168_9), (0, .ref h), (1, .int mm), (2, .int a), (3, .int b), (4, .int d), (5, .int k), (6, .int n), (7, .int q)]) hx hb dX12_isWord_103 hl (by decide) rfl (fun ls hl => ?_)
                    obtain ⟨v189, ev189⟩ : ∃ y : Int32, y = x168_9 + 1 := ⟨_, rfl⟩
                    have tv189 := z_add ev189 rfl (by decide : (1 : Int32).toInt = 1) (by omega) (by omega)
                    refine lv_iinc (v := v189) (lv' := [(9, .int v189), (8, .int 0), (0, .ref h), (1, .int mm), (2, .int a), (3, .int b), (4, .int d), (5, .int k), (6, .int n), (7, .int q)]) hx hb dX12_isWord_105 hl (k := 1) rfl (by rw [ev189]; rfl) (by decide) rfl (fun ls hl => ?_)
                    refine lv_goto (tgt := 18) hx hb dX12_isWord_108 (by decide) ?_
                    have : (0 : Int32).toInt = 0 := (by decide)
                    exact ih169 v189 0 ⟨by omega, by omega⟩ ⟨by decide, by decide⟩ (show (((0 : Int32).toInt = 1 ∧ ((iv 12 38) : Int32).toInt = (mm).toInt ∧ ∀ j : Nat, (j : Int) < (v189 : Int32).toInt → (fun j => sg ((fa 12 32) j).toInt) ((((iv 12 37) : Int32).toInt).toNat + j) = (lt6 a b d k n q) j) ∨ ((0 : Int32).toInt = 0 ∧ ¬ WdG (fun j => sg ((fa 12 32) j).toInt) ((iv 12 37) : Int32).toInt (((iv 12 37) : Int32).toInt + ((iv 12 38) : Int32).toInt) (mm).toInt (lt6 a b d k n q))) from (by
                          refine Or.inr ⟨by omega, fun h9 => ?_⟩
                          obtain ⟨-, h8⟩ := h9
                          have h7 : sg (fa 12 32 ((iv 12 37).toInt.toNat + 2)).toInt = (d : Int32).toInt := h8 2 (by omega)
                          have q0 := congrArg Int32.toInt (ev173.trans (congrArg (fa 12 32) (show (v172 : Int32).toNatClampNeg = (iv 12 37).toInt.toNat + 2 from (by show (v172 : Int32).toInt.toNat = _; omega))))
                          have s0 := sg_i (v173 : Int32).toInt
                          rw [q0] at s0
                          omega)) (show ((0 : Int32).toInt = 0 ∨ ((iv 12 38) : Int32).toInt = (mm).toInt) from by omega) (by omega) ls (lv_sub hl [0, 1, 2, 3, 4, 5, 6, 7, 8, 9] rfl)
                  · have fc188 := z_eq (rfl : (v173).toInt = _) (rfl : (d).toInt = _) c188
                    refine lv_iconst (v := 1) hx hb dX12_isWord_98 (by decide) ?_
                    refine lv_goto (tgt := 103) hx hb dX12_isWord_99 (by decide) ?_
                    refine lv_istore (lv' := [(8, .int 1), (9, .int x168_9), (0, .ref h), (1, .int mm), (2, .int a), (3, .int b), (4, .int d), (5, .int k), (6, .int n), (7, .int q)]) hx hb dX12_isWord_103 hl (by decide) rfl (fun ls hl => ?_)
                    obtain ⟨v190, ev190⟩ : ∃ y : Int32, y = x168_9 + 1 := ⟨_, rfl⟩
                    have tv190 := z_add ev190 rfl (by decide : (1 : Int32).toInt = 1) (by omega) (by omega)
                    refine lv_iinc (v := v190) (lv' := [(9, .int v190), (8, .int 1), (0, .ref h), (1, .int mm), (2, .int a), (3, .int b), (4, .int d), (5, .int k), (6, .int n), (7, .int q)]) hx hb dX12_isWord_105 hl (k := 1) rfl (by rw [ev190]; rfl) (by decide) rfl (fun ls hl => ?_)
                    refine lv_goto (tgt := 18) hx hb dX12_isWord_108 (by decide) ?_
                    have : (1 : Int32).toInt = 1 := (by decide)
                    exact ih169 v190 1 ⟨by omega, by omega⟩ ⟨by decide, by decide⟩ (show (((1 : Int32).toInt = 1 ∧ ((iv 12 38) : Int32).toInt = (mm).toInt ∧ ∀ j : Nat, (j : Int) < (v190 : Int32).toInt → (fun j => sg ((fa 12 32) j).toInt) ((((iv 12 37) : Int32).toInt).toNat + j) = (lt6 a b d k n q) j) ∨ ((1 : Int32).toInt = 0 ∧ ¬ WdG (fun j => sg ((fa 12 32) j).toInt) ((iv 12 37) : Int32).toInt (((iv 12 37) : Int32).toInt + ((iv 12 38) : Int32).toInt) (mm).toInt (lt6 a b d k n q))) from (by
                          rcases hq169_0 with ⟨h1, h2, h3⟩ | ⟨h1, h2⟩
                          · refine Or.inl ⟨by omega, h2, fun j hj => ?_⟩
                            by_cases hj2 : (j : Int) < (x168_9 : Int32).toInt
                            · exact h3 j hj2
                            · have hj3 : j = 2 := by omega
                              rw [hj3]
                              have q0 := congrArg Int32.toInt (ev173.trans (congrArg (fa 12 32) (show (v172 : Int32).toNatClampNeg = (iv 12 37).toInt.toNat + 2 from (by show (v172 : Int32).toInt.toNat = _; omega))))
                              have s0 := sg_i (v173 : Int32).toInt
                              rw [q0] at s0
                              show sg (fa 12 32 ((iv 12 37).toInt.toNat + 2)).toInt = (d : Int32).toInt
                              omega
                          · exfalso; omega)) (show ((1 : Int32).toInt = 0 ∨ ((iv 12 38) : Int32).toInt = (mm).toInt) from by omega) (by omega) ls (lv_sub hl [0, 1, 2, 3, 4, 5, 6, 7, 8, 9] rfl)
              · have fc175 := z_eq (rfl : (x168_9).toInt = _) (by decide : (1 : Int32).toInt = 1) c175
                refine lv_iload_n hx hb dX12_isWord_56 rfl (lv_at hl 5 rfl) ?_
                refine lv_goto (tgt := 95) hx hb dX12_isWord_57 (by decide) ?_
                refine lv_icmp_ne (tgt := 102) hx hb dX12_isWord_95 (by decide) (fun c191 => ?_) (fun c191 => ?_)
                · have fc191 := z_ne (rfl : (v173).toInt = _) (rfl : (b).toInt = _) c191
                  refine lv_iconst (v := 0) hx hb dX12_isWord_102 (by decide) ?_
                  refine lv_istore (lv' := [(8, .int 0), (9, .int x168_9), (0, .ref h), (1, .int mm), (2, .int a), (3, .int b), (4, .int d), (5, .int k), (6, .int n), (7, .int q)]) hx hb dX12_isWord_103 hl (by decide) rfl (fun ls hl => ?_)
                  obtain ⟨v192, ev192⟩ : ∃ y : Int32, y = x168_9 + 1 := ⟨_, rfl⟩
                  have tv192 := z_add ev192 rfl (by decide : (1 : Int32).toInt = 1) (by omega) (by omega)
                  refine lv_iinc (v := v192) (lv' := [(9, .int v192), (8, .int 0), (0, .ref h), (1, .int mm), (2, .int a), (3, .int b), (4, .int d), (5, .int k), (6, .int n), (7, .int q)]) hx hb dX12_isWord_105 hl (k := 1) rfl (by rw [ev192]; rfl) (by decide) rfl (fun ls hl => ?_)
                  refine lv_goto (tgt := 18) hx hb dX12_isWord_108 (by decide) ?_
                  have : (0 : Int32).toInt = 0 := (by decide)
                  exact ih169 v192 0 ⟨by omega, by omega⟩ ⟨by decide, by decide⟩ (show (((0 : Int32).toInt = 1 ∧ ((iv 12 38) : Int32).toInt = (mm).toInt ∧ ∀ j : Nat, (j : Int) < (v192 : Int32).toInt → (fun j => sg ((fa 12 32) j).toInt) ((((iv 12 37) : Int32).toInt).toNat + j) = (lt6 a b d k n q) j) ∨ ((0 : Int32).toInt = 0 ∧ ¬ WdG (fun j => sg ((fa 12 32) j).toInt) ((iv 12 37) : Int32).toInt (((iv 12 37) : Int32).toInt + ((iv 12 38) : Int32).toInt) (mm).toInt (lt6 a b d k n q))) from (by
                        refine Or.inr ⟨by omega, fun h9 => ?_⟩
                        obtain ⟨-, h8⟩ := h9
                        have h7 : sg (fa 12 32 ((iv 12 37).toInt.toNat + 1)).toInt = (b : Int32).toInt := h8 1 (by omega)
                        have q0 := congrArg Int32.toInt (ev173.trans (congrArg (fa 12 32) (show (v172 : Int32).toNatClampNeg = (iv 12 37).toInt.toNat + 1 from (by show (v172 : Int32).toInt.toNat = _; omega))))
                        have s0 := sg_i (v173 : Int32).toInt
                        rw [q0] at s0
                        omega)) (show ((0 : Int32).toInt = 0 ∨ ((iv 12 38) : Int32).toInt = (mm).toInt) from by omega) (by omega) ls (lv_sub hl [0, 1, 2, 3, 4, 5, 6, 7, 8, 9] rfl)
                · have fc191 := z_eq (rfl : (v173).toInt = _) (rfl : (b).toInt = _) c191
                  refine lv_iconst (v := 1) hx hb dX12_isWord_98 (by decide) ?_
                  refine lv_goto (tgt := 103) hx hb dX12_isWord_99 (by decide) ?_
                  refine lv_istore (lv' := [(8, .int 1), (9, .int x168_9), (0, .ref h), (1, .int mm), (2, .int a), (3, .int b), (4, .int d), (5, .int k), (6, .int n), (7, .int q)]) hx hb dX12_isWord_103 hl (by decide) rfl (fun ls hl => ?_)
                  obtain ⟨v193, ev193⟩ : ∃ y : Int32, y = x168_9 + 1 := ⟨_, rfl⟩
                  have tv193 := z_add ev193 rfl (by decide : (1 : Int32).toInt = 1) (by omega) (by omega)
                  refine lv_iinc (v := v193) (lv' := [(9, .int v193), (8, .int 1), (0, .ref h), (1, .int mm), (2, .int a), (3, .int b), (4, .int d), (5, .int k), (6, .int n), (7, .int q)]) hx hb dX12_isWord_105 hl (k := 1) rfl (by rw [ev193]; rfl) (by decide) rfl (fun ls hl => ?_)
                  refine lv_goto (tgt := 18) hx hb dX12_isWord_108 (by decide) ?_
                  have : (1 : Int32).toInt = 1 := (by decide)
                  exact ih169 v193 1 ⟨by omega, by omega⟩ ⟨by decide, by decide⟩ (show (((1 : Int32).toInt = 1 ∧ ((iv 12 38) : Int32).toInt = (mm).toInt ∧ ∀ j : Nat, (j : Int) < (v193 : Int32).toInt → (fun j => sg ((fa 12 32) j).toInt) ((((iv 12 37) : Int32).toInt).toNat + j) = (lt6 a b d k n q) j) ∨ ((1 : Int32).toInt = 0 ∧ ¬ WdG (fun j => sg ((fa 12 32) j).toInt) ((iv 12 37) : Int32).toInt (((iv 12 37) : Int32).toInt + ((iv 12 38) : Int32).toInt) (mm).toInt (lt6 a b d k n q))) from (by
                        rcases hq169_0 with ⟨h1, h2, h3⟩ | ⟨h1, h2⟩
                        · refine Or.inl ⟨by omega, h2, fun j hj => ?_⟩
                          by_cases hj2 : (j : Int) < (x168_9 : Int32).toInt
                          · exact h3 j hj2
                          · have hj3 : j = 1 := by omega
                            rw [hj3]
                            have q0 := congrArg Int32.toInt (ev173.trans (congrArg (fa 12 32) (show (v172 : Int32).toNatClampNeg = (iv 12 37).toInt.toNat + 1 from (by show (v172 : Int32).toInt.toNat = _; omega))))
                            have s0 := sg_i (v173 : Int32).toInt
                            rw [q0] at s0
                            show sg (fa 12 32 ((iv 12 37).toInt.toNat + 1)).toInt = (b : Int32).toInt
                            omega
                        · exfalso; omega)) (show ((1 : Int32).toInt = 0 ∨ ((iv 12 38) : Int32).toInt = (mm).toInt) from by omega) (by omega) ls (lv_sub hl [0, 1, 2, 3, 4, 5, 6, 7, 8, 9] rfl)
            · have fc174 := z_eq (rfl : (x168_9).toInt = _) (by decide : (0 : Int32).toInt = 0) c174
              refine lv_iload_n hx hb dX12_isWord_46 rfl (lv_at hl 4 rfl) ?_
              refine lv_goto (tgt := 95) hx hb dX12_isWord_47 (by decide) ?_
              refine lv_icmp_ne (tgt := 102) hx hb dX12_isWord_95 (by decide) (fun c194 => ?_) (fun c194 => ?_)
              · have fc194 := z_ne (rfl : (v173).toInt = _) (rfl : (a).toInt = _) c194
                refine lv_iconst (v := 0) hx hb dX12_isWord_102 (by decide) ?_
                refine lv_istore (lv' := [(8, .int 0), (9, .int x168_9), (0, .ref h), (1, .int mm), (2, .int a), (3, .int b), (4, .int d), (5, .int k), (6, .int n), (7, .int q)]) hx hb dX12_isWord_103 hl (by decide) rfl (fun ls hl => ?_)
                obtain ⟨v195, ev195⟩ : ∃ y : Int32, y = x168_9 + 1 := ⟨_, rfl⟩
                have tv195 := z_add ev195 rfl (by decide : (1 : Int32).toInt = 1) (by omega) (by omega)
                refine lv_iinc (v := v195) (lv' := [(9, .int v195), (8, .int 0), (0, .ref h), (1, .int mm), (2, .int a), (3, .int b), (4, .int d), (5, .int k), (6, .int n), (7, .int q)]) hx hb dX12_isWord_105 hl (k := 1) rfl (by rw [ev195]; rfl) (by decide) rfl (fun ls hl => ?_)
                refine lv_goto (tgt := 18) hx hb dX12_isWord_108 (by decide) ?_
                have : (0 : Int32).toInt = 0 := (by decide)
                exact ih169 v195 0 ⟨by omega, by omega⟩ ⟨by decide, by decide⟩ (show (((0 : Int32).toInt = 1 ∧ ((iv 12 38) : Int32).toInt = (mm).toInt ∧ ∀ j : Nat, (j : Int) < (v195 : Int32).toInt → (fun j => sg ((fa 12 32) j).toInt) ((((iv 12 37) : Int32).toInt).toNat + j) = (lt6 a b d k n q) j) ∨ ((0 : Int32).toInt = 0 ∧ ¬ WdG (fun j => sg ((fa 12 32) j).toInt) ((iv 12 37) : Int32).toInt (((iv 12 37) : Int32).toInt + ((iv 12 38) : Int32).toInt) (mm).toInt (lt6 a b d k n q))) from (by
                      refine Or.inr ⟨by omega, fun h9 => ?_⟩
                      obtain ⟨-, h8⟩ := h9
                      have h7 : sg (fa 12 32 ((iv 12 37).toInt.toNat + 0)).toInt = (a : Int32).toInt := h8 0 (by omega)
                      have q0 := congrArg Int32.toInt (ev173.trans (congrArg (fa 12 32) (show (v172 : Int32).toNatClampNeg = (iv 12 37).toInt.toNat + 0 from (by show (v172 : Int32).toInt.toNat = _; omega))))
                      have s0 := sg_i (v173 : Int32).toInt
                      rw [q0] at s0
                      omega)) (show ((0 : Int32).toInt = 0 ∨ ((iv 12 38) : Int32).toInt = (mm).toInt) from by omega) (by omega) ls (lv_sub hl [0, 1, 2, 3, 4, 5, 6, 7, 8, 9] rfl)
              · have fc194 := z_eq (rfl : (v173).toInt = _) (rfl : (a).toInt = _) c194
                refine lv_iconst (v := 1) hx hb dX12_isWord_98 (by decide) ?_
                refine lv_goto (tgt := 103) hx hb dX12_isWord_99 (by decide) ?_
                refine lv_istore (lv' := [(8, .int 1), (9, .int x168_9), (0, .ref h), (1, .int mm), (2, .int a), (3, .int b), (4, .int d), (5, .int k), (6, .int n), (7, .int q)]) hx hb dX12_isWord_103 hl (by decide) rfl (fun ls hl => ?_)
                obtain ⟨v196, ev196⟩ : ∃ y : Int32, y = x168_9 + 1 := ⟨_, rfl⟩
                have tv196 := z_add ev196 rfl (by decide : (1 : Int32).toInt = 1) (by omega) (by omega)
                refine lv_iinc (v := v196) (lv' := [(9, .int v196), (8, .int 1), (0, .ref h), (1, .int mm), (2, .int a), (3, .int b), (4, .int d), (5, .int k), (6, .int n), (7, .int q)]) hx hb dX12_isWord_105 hl (k := 1) rfl (by rw [ev196]; rfl) (by decide) rfl (fun ls hl => ?_)
                refine lv_goto (tgt := 18) hx hb dX12_isWord_108 (by decide) ?_
                have : (1 : Int32).toInt = 1 := (by decide)
                exact ih169 v196 1 ⟨by omega, by omega⟩ ⟨by decide, by decide⟩ (show (((1 : Int32).toInt = 1 ∧ ((iv 12 38) : Int32).toInt = (mm).toInt ∧ ∀ j : Nat, (j : Int) < (v196 : Int32).toInt → (fun j => sg ((fa 12 32) j).toInt) ((((iv 12 37) : Int32).toInt).toNat + j) = (lt6 a b d k n q) j) ∨ ((1 : Int32).toInt = 0 ∧ ¬ WdG (fun j => sg ((fa 12 32) j).toInt) ((iv 12 37) : Int32).toInt (((iv 12 37) : Int32).toInt + ((iv 12 38) : Int32).toInt) (mm).toInt (lt6 a b d k n q))) from (by
                      rcases hq169_0 with ⟨h1, h2, h3⟩ | ⟨h1, h2⟩
                      · refine Or.inl ⟨by omega, h2, fun j hj => ?_⟩
                        by_cases hj2 : (j : Int) < (x168_9 : Int32).toInt
                        · exact h3 j hj2
                        · have hj3 : j = 0 := by omega
                          rw [hj3]
                          have q0 := congrArg Int32.toInt (ev173.trans (congrArg (fa 12 32) (show (v172 : Int32).toNatClampNeg = (iv 12 37).toInt.toNat + 0 from (by show (v172 : Int32).toInt.toNat = _; omega))))
                          have s0 := sg_i (v173 : Int32).toInt
                          rw [q0] at s0
                          show sg (fa 12 32 ((iv 12 37).toInt.toNat + 0)).toInt = (a : Int32).toInt
                          omega
                      · exfalso; omega)) (show ((1 : Int32).toInt = 0 ∨ ((iv 12 38) : Int32).toInt = (mm).toInt) from by omega) (by omega) ls (lv_sub hl [0, 1, 2, 3, 4, 5, 6, 7, 8, 9] rfl)
    have : (0 : Int32).toInt = 0 := (by decide)
    have i_12_37 : 0 ≤ (iv 12 37).toInt ∧ (iv 12 37).toInt ≤ 200 := hI.1 12 37
    exact lp169 7 0 0 ⟨by decide, by decide⟩ ⟨by decide, by decide⟩ (show (((0 : Int32).toInt = 1 ∧ ((iv 12 38) : Int32).toInt = (mm).toInt ∧ ∀ j : Nat, (j : Int) < (0 : Int32).toInt → (fun j => sg ((fa 12 32) j).toInt) ((((iv 12 37) : Int32).toInt).toNat + j) = (lt6 a b d k n q) j) ∨ ((0 : Int32).toInt = 0 ∧ ¬ WdG (fun j => sg ((fa 12 32) j).toInt) ((iv 12 37) : Int32).toInt (((iv 12 37) : Int32).toInt + ((iv 12 38) : Int32).toInt) (mm).toInt (lt6 a b d k n q))) from Or.inr ⟨by omega, fun h9 => (by obtain ⟨h8, -⟩ := h9; omega)⟩) (show ((0 : Int32).toInt = 0 ∨ ((iv 12 38) : Int32).toInt = (mm).toInt) from by omega) (by first | decide | omega) ls (lv_sub hl [0, 1, 2, 3, 4, 5, 6, 7, 8, 9] rfl)
  · have fc1 := z_eq (rfl : ((iv 12 38)).toInt = _) (rfl : (mm).toInt = _) c1
    refine lv_iconst (v := 1) hx hb dX12_isWord_8 (by decide) ?_
    refine lv_goto (tgt := 13) hx hb dX12_isWord_9 (by decide) ?_
    refine lv_istore (lv' := [(8, .int 1), (0, .ref h), (1, .int mm), (2, .int a), (3, .int b), (4, .int d), (5, .int k), (6, .int n), (7, .int q)]) hx hb dX12_isWord_13 hl (by decide) rfl (fun ls hl => ?_)
    refine lv_iconst (v := 0) hx hb dX12_isWord_15 (by decide) ?_
    refine lv_istore (lv' := [(9, .int 0), (8, .int 1), (0, .ref h), (1, .int mm), (2, .int a), (3, .int b), (4, .int d), (5, .int k), (6, .int n), (7, .int q)]) hx hb dX12_isWord_16 hl (by decide) rfl (fun ls hl => ?_)
    have i_12_37 : 0 ≤ (iv 12 37).toInt ∧ (iv 12 37).toInt ≤ 200 := hI.1 12 37
    have lp364 : ∀ (nn364 : Nat) (x363_9 : Int32) (x363_8 : Int32), 0 ≤ x363_9.toInt ∧ x363_9.toInt ≤ 6 → 0 ≤ x363_8.toInt ∧ x363_8.toInt ≤ 1 → ((((x363_8 : Int32).toInt = 1 ∧ ((iv 12 38) : Int32).toInt = (mm).toInt ∧ ∀ j : Nat, (j : Int) < (x363_9 : Int32).toInt → (fun j => sg ((fa 12 32) j).toInt) ((((iv 12 37) : Int32).toInt).toNat + j) = (lt6 a b d k n q) j) ∨ ((x363_8 : Int32).toInt = 0 ∧ ¬ WdG (fun j => sg ((fa 12 32) j).toInt) ((iv 12 37) : Int32).toInt (((iv 12 37) : Int32).toInt + ((iv 12 38) : Int32).toInt) (mm).toInt (lt6 a b d k n q)))) → ((x363_8 : Int32).toInt = 0 ∨ ((iv 12 38) : Int32).toInt = (mm).toInt) → 6 - x363_9.toInt < (nn364 : Int) → ∀ (ls : Array Slot), lv_has ls 10 [(9, .int x363_9), (8, .int x363_8), (0, .ref h), (1, .int mm), (2, .int a), (3, .int b), (4, .int d), (5, .int k), (6, .int n), (7, .int q)] → W p l e ({ frames := 0, cells := 0, slots := 0, locals := 0 } : Room) s m ([.ref h, .int mm, .int a, .int b, .int d, .int k, .int n, .int q] : List Value).toArray below meth c s.heap [] 0 0 (MQ below (vp_Si (fun r => (0 ≤ r.toInt ∧ r.toInt ≤ 1) ∧ (((r.toInt = 1 ∧ WdG (fun j => sg ((fa 12 32) j).toInt) (iv 12 37).toInt ((iv 12 37).toInt + (iv 12 38).toInt) mm.toInt (lt6 a b d k n q)) ∨ (r.toInt = 0 ∧ ¬ WdG (fun j => sg ((fa 12 32) j).toInt) (iv 12 37).toInt ((iv 12 37).toInt + (iv 12 38).toInt) mm.toInt (lt6 a b d k n q)))) ∧ ((r.toInt = 0 ∨ (iv 12 38).toInt = mm.toInt)))) ([.ref h, .int mm, .int a, .int b, .int d, .int k, .int n, .int q] : List Value).toArray s 0 0 (fun _ => False)) (F0 m 18 ls []) := by
      intro nn364
      induction nn364 with
      | zero => intro x363_9 x363_8 hx363_9 hx363_8 hq364_0 hq364_1 hm364; exfalso; omega
      | succ nn364 ih364 =>
        intro x363_9 x363_8 hx363_9 hx363_8 hq364_0 hq364_1 hm364 ls hl
        refine lv_iload hx hb dX12_isWord_18 (lv_at hl 0 rfl) ?_
        refine lv_iload_n hx hb dX12_isWord_20 rfl (lv_at hl 3 rfl) ?_
        refine lv_icmp_ge (tgt := 111) hx hb dX12_isWord_21 (by decide) (fun c365 => ?_) (fun c365 => ?_)
        · have fc365 := z_le (rfl : (mm).toInt = _) (rfl : (x363_9).toInt = _) c365
          refine lv_iload hx hb dX12_isWord_111 (lv_at hl 1 rfl) ?_
          exact W.zret (v := x363_8) hx hb hr (nar01 ⟨by omega, by omega⟩) (fun t ht9 hW => ⟨x363_8, rfl, ⟨⟨by omega, by omega⟩, (show (((x363_8 : Int32).toInt = 1 ∧ WdG (fun j => sg ((fa 12 32) j).toInt) ((iv 12 37) : Int32).toInt (((iv 12 37) : Int32).toInt + ((iv 12 38) : Int32).toInt) (mm).toInt (lt6 a b d k n q)) ∨ ((x363_8 : Int32).toInt = 0 ∧ ¬ WdG (fun j => sg ((fa 12 32) j).toInt) ((iv 12 37) : Int32).toInt (((iv 12 37) : Int32).toInt + ((iv 12 38) : Int32).toInt) (mm).toInt (lt6 a b d k n q))) from (by
                rcases hq364_0 with ⟨h1, h2, h3⟩ | ⟨h1, h2⟩
                · exact Or.inl ⟨by omega, by omega, fun j hj => h3 j (by omega)⟩
                · exact Or.inr ⟨by omega, h2⟩)), (show ((x363_8 : Int32).toInt = 0 ∨ ((iv 12 38) : Int32).toInt = (mm).toInt) from by omega)⟩, ht9⟩) (fun q hq => by cases hq) dX12_isWord_113
        · have fc365 := z_nle (rfl : (mm).toInt = _) (rfl : (x363_9).toInt = _) c365
          refine lv_iload hx hb dX12_isWord_24 (lv_at hl 1 rfl) ?_
          refine lv_if_eq (tgt := 111) hx hb dX12_isWord_26 (by decide) (fun c366 => ?_) (fun c366 => ?_)
          · have fc366 := z_eq (rfl : (x363_8).toInt = _) (by decide : (0 : Int32).toInt = 0) c366
            refine lv_iload hx hb dX12_isWord_111 (lv_at hl 1 rfl) ?_
            exact W.zret (v := x363_8) hx hb hr (nar01 ⟨by omega, by omega⟩) (fun t ht9 hW => ⟨x363_8, rfl, ⟨⟨by omega, by omega⟩, (show (((x363_8 : Int32).toInt = 1 ∧ WdG (fun j => sg ((fa 12 32) j).toInt) ((iv 12 37) : Int32).toInt (((iv 12 37) : Int32).toInt + ((iv 12 38) : Int32).toInt) (mm).toInt (lt6 a b d k n q)) ∨ ((x363_8 : Int32).toInt = 0 ∧ ¬ WdG (fun j => sg ((fa 12 32) j).toInt) ((iv 12 37) : Int32).toInt (((iv 12 37) : Int32).toInt + ((iv 12 38) : Int32).toInt) (mm).toInt (lt6 a b d k n q))) from (by
                  rcases hq364_0 with ⟨h1, h2, h3⟩ | ⟨h1, h2⟩
                  · exact Or.inl ⟨by omega, by omega, fun j hj => h3 j (by omega)⟩
                  · exact Or.inr ⟨by omega, h2⟩)), (show ((x363_8 : Int32).toInt = 0 ∨ ((iv 12 38) : Int32).toInt = (mm).toInt) from by omega)⟩, ht9⟩) (fun q hq => by cases hq) dX12_isWord_113
          · have fc366 := z_ne (rfl : (x363_8).toInt = _) (by decide : (0 : Int32).toInt = 0) c366
            refine lv_aload_n hx hb dX12_isWord_29 rfl (lv_at hl 2 rfl) ?_
            refine gM_12_32 hx hb ht hown hK hP m_1171 dX12_isWord_30 ?_
            refine lv_aload_n hx hb dX12_isWord_33 rfl (lv_at hl 2 rfl) ?_
            refine gM_12_37 hx hb ht hown hK hP m_1176 (v := (iv 12 37)) rfl dX12_isWord_34 ?_
            refine lv_iload hx hb dX12_isWord_37 (lv_at hl 0 rfl) ?_
            refine lv_iadd hx hb dX12_isWord_39 ?_
            refine lv_topi (fun v367 ev367 => ?_)
            have tv367 := z_add ev367 (rfl : ((iv 12 37)).toInt = _) (rfl : (x363_9).toInt = _) (by omega) (by omega)
            have : 0 ≤ (v367 : Int32).toInt ∧ (v367 : Int32).toInt ≤ 199 := ⟨by omega, by omega⟩
            refine lM_12_32 hx hb hK hP (f := (fa 12 32)) rfl (vp_in_iff.mpr ⟨by omega, by omega⟩) dX12_isWord_40 ?_
            refine lv_topi (fun v368 ev368 => ?_)
            refine lv_iload hx hb dX12_isWord_41 (lv_at hl 0 rfl) ?_
            refine lv_if_ne (tgt := 50) hx hb dX12_isWord_43 (by decide) (fun c369 => ?_) (fun c369 => ?_)
            · have fc369 := z_ne (rfl : (x363_9).toInt = _) (by decide : (0 : Int32).toInt = 0) c369
              refine lv_iload hx hb dX12_isWord_50 (lv_at hl 0 rfl) ?_
              refine lv_iconst (v := 1) hx hb dX12_isWord_52 (by decide) ?_
              refine lv_icmp_ne (tgt := 60) hx hb dX12_isWord_53 (by decide) (fun c370 => ?_) (fun c370 => ?_)
              · have fc370 := z_ne (rfl : (x363_9).toInt = _) (by decide : (1 : Int32).toInt = 1) c370
                refine lv_iload hx hb dX12_isWord_60 (lv_at hl 0 rfl) ?_
                refine lv_iconst (v := 2) hx hb dX12_isWord_62 (by decide) ?_
                refine lv_icmp_ne (tgt := 71) hx hb dX12_isWord_63 (by decide) (fun c371 => ?_) (fun c371 => ?_)
                · have fc371 := z_ne (rfl : (x363_9).toInt = _) (by decide : (2 : Int32).toInt = 2) c371
                  refine lv_iload hx hb dX12_isWord_71 (lv_at hl 0 rfl) ?_
                  refine lv_iconst (v := 3) hx hb dX12_isWord_73 (by decide) ?_
                  refine lv_icmp_ne (tgt := 82) hx hb dX12_isWord_74 (by decide) (fun c372 => ?_) (fun c372 => ?_)
                  · have fc372 := z_ne (rfl : (x363_9).toInt = _) (by decide : (3 : Int32).toInt = 3) c372
                    refine lv_iload hx hb dX12_isWord_82 (lv_at hl 0 rfl) ?_
                    refine lv_iconst (v := 4) hx hb dX12_isWord_84 (by decide) ?_
                    refine lv_icmp_ne (tgt := 93) hx hb dX12_isWord_85 (by decide) (fun c373 => ?_) (fun c373 => ?_)
                    · have fc373 := z_ne (rfl : (x363_9).toInt = _) (by decide : (4 : Int32).toInt = 4) c373
                      refine lv_iload hx hb dX12_isWord_93 (lv_at hl 9 rfl) ?_
                      refine lv_icmp_ne (tgt := 102) hx hb dX12_isWord_95 (by decide) (fun c374 => ?_) (fun c374 => ?_)
                      · have fc374 := z_ne (rfl : (v368).toInt = _) (rfl : (q).toInt = _) c374
                        refine lv_iconst (v := 0) hx hb dX12_isWord_102 (by decide) ?_
                        refine lv_istore (lv' := [(8, .int 0), (9, .int x363_9), (0, .ref h), (1, .int mm), (2, .int a), (3, .int b), (4, .int d), (5, .int k), (6, .int n), (7, .int q)]) hx hb dX12_isWord_103 hl (by decide) rfl (fun ls hl => ?_)
                        obtain ⟨v375, ev375⟩ : ∃ y : Int32, y = x363_9 + 1 := ⟨_, rfl⟩
                        have tv375 := z_add ev375 rfl (by decide : (1 : Int32).toInt = 1) (by omega) (by omega)
                        refine lv_iinc (v := v375) (lv' := [(9, .int v375), (8, .int 0), (0, .ref h), (1, .int mm), (2, .int a), (3, .int b), (4, .int d), (5, .int k), (6, .int n), (7, .int q)]) hx hb dX12_isWord_105 hl (k := 1) rfl (by rw [ev375]; rfl) (by decide) rfl (fun ls hl => ?_)
                        refine lv_goto (tgt := 18) hx hb dX12_isWord_108 (by decide) ?_
                        have : (0 : Int32).toInt = 0 := (by decide)
                        exact ih364 v375 0 ⟨by omega, by omega⟩ ⟨by decide, by decide⟩ (show (((0 : Int32).toInt = 1 ∧ ((iv 12 38) : Int32).toInt = (mm).toInt ∧ ∀ j : Nat, (j : Int) < (v375 : Int32).toInt → (fun j => sg ((fa 12 32) j).toInt) ((((iv 12 37) : Int32).toInt).toNat + j) = (lt6 a b d k n q) j) ∨ ((0 : Int32).toInt = 0 ∧ ¬ WdG (fun j => sg ((fa 12 32) j).toInt) ((iv 12 37) : Int32).toInt (((iv 12 37) : Int32).toInt + ((iv 12 38) : Int32).toInt) (mm).toInt (lt6 a b d k n q))) from (by
                              refine Or.inr ⟨by omega, fun h9 => ?_⟩
                              obtain ⟨-, h8⟩ := h9
                              have h7 : sg (fa 12 32 ((iv 12 37).toInt.toNat + 5)).toInt = (q : Int32).toInt := h8 5 (by omega)
                              have q0 := congrArg Int32.toInt (ev368.trans (congrArg (fa 12 32) (show (v367 : Int32).toNatClampNeg = (iv 12 37).toInt.toNat + 5 from (by show (v367 : Int32).toInt.toNat = _; omega))))
                              have s0 := sg_i (v368 : Int32).toInt
                              rw [q0] at s0
                              omega)) (show ((0 : Int32).toInt = 0 ∨ ((iv 12 38) : Int32).toInt = (mm).toInt) from by omega) (by omega) ls (lv_sub hl [0, 1, 2, 3, 4, 5, 6, 7, 8, 9] rfl)
                      · have fc374 := z_eq (rfl : (v368).toInt = _) (rfl : (q).toInt = _) c374
                        refine lv_iconst (v := 1) hx hb dX12_isWord_98 (by decide) ?_
                        refine lv_goto (tgt := 103) hx hb dX12_isWord_99 (by decide) ?_
                        refine lv_istore (lv' := [(8, .int 1), (9, .int x363_9), (0, .ref h), (1, .int mm), (2, .int a), (3, .int b), (4, .int d), (5, .int k), (6, .int n), (7, .int q)]) hx hb dX12_isWord_103 hl (by decide) rfl (fun ls hl => ?_)
                        obtain ⟨v376, ev376⟩ : ∃ y : Int32, y = x363_9 + 1 := ⟨_, rfl⟩
                        have tv376 := z_add ev376 rfl (by decide : (1 : Int32).toInt = 1) (by omega) (by omega)
                        refine lv_iinc (v := v376) (lv' := [(9, .int v376), (8, .int 1), (0, .ref h), (1, .int mm), (2, .int a), (3, .int b), (4, .int d), (5, .int k), (6, .int n), (7, .int q)]) hx hb dX12_isWord_105 hl (k := 1) rfl (by rw [ev376]; rfl) (by decide) rfl (fun ls hl => ?_)
                        refine lv_goto (tgt := 18) hx hb dX12_isWord_108 (by decide) ?_
                        have : (1 : Int32).toInt = 1 := (by decide)
                        exact ih364 v376 1 ⟨by omega, by omega⟩ ⟨by decide, by decide⟩ (show (((1 : Int32).toInt = 1 ∧ ((iv 12 38) : Int32).toInt = (mm).toInt ∧ ∀ j : Nat, (j : Int) < (v376 : Int32).toInt → (fun j => sg ((fa 12 32) j).toInt) ((((iv 12 37) : Int32).toInt).toNat + j) = (lt6 a b d k n q) j) ∨ ((1 : Int32).toInt = 0 ∧ ¬ WdG (fun j => sg ((fa 12 32) j).toInt) ((iv 12 37) : Int32).toInt (((iv 12 37) : Int32).toInt + ((iv 12 38) : Int32).toInt) (mm).toInt (lt6 a b d k n q))) from (by
                              rcases hq364_0 with ⟨h1, h2, h3⟩ | ⟨h1, h2⟩
                              · refine Or.inl ⟨by omega, h2, fun j hj => ?_⟩
                                by_cases hj2 : (j : Int) < (x363_9 : Int32).toInt
                                · exact h3 j hj2
                                · have hj3 : j = 5 := by omega
                                  rw [hj3]
                                  have q0 := congrArg Int32.toInt (ev368.trans (congrArg (fa 12 32) (show (v367 : Int32).toNatClampNeg = (iv 12 37).toInt.toNat + 5 from (by show (v367 : Int32).toInt.toNat = _; omega))))
                                  have s0 := sg_i (v368 : Int32).toInt
                                  rw [q0] at s0
                                  show sg (fa 12 32 ((iv 12 37).toInt.toNat + 5)).toInt = (q : Int32).toInt
                                  omega
                              · exfalso; omega)) (show ((1 : Int32).toInt = 0 ∨ ((iv 12 38) : Int32).toInt = (mm).toInt) from by omega) (by omega) ls (lv_sub hl [0, 1, 2, 3, 4, 5, 6, 7, 8, 9] rfl)
                    · have fc373 := z_eq (rfl : (x363_9).toInt = _) (by decide : (4 : Int32).toInt = 4) c373
                      refine lv_iload hx hb dX12_isWord_88 (lv_at hl 8 rfl) ?_
                      refine lv_goto (tgt := 95) hx hb dX12_isWord_90 (by decide) ?_
                      refine lv_icmp_ne (tgt := 102) hx hb dX12_isWord_95 (by decide) (fun c377 => ?_) (fun c377 => ?_)
                      · have fc377 := z_ne (rfl : (v368).toInt = _) (rfl : (n).toInt = _) c377
                        refine lv_iconst (v := 0) hx hb dX12_isWord_102 (by decide) ?_
                        refine lv_istore (lv' := [(8, .int 0), (9, .int x363_9), (0, .ref h), (1, .int mm), (2, .int a), (3, .int b), (4, .int d), (5, .int k), (6, .int n), (7, .int q)]) hx hb dX12_isWord_103 hl (by decide) rfl (fun ls hl => ?_)
                        obtain ⟨v378, ev378⟩ : ∃ y : Int32, y = x363_9 + 1 := ⟨_, rfl⟩
                        have tv378 := z_add ev378 rfl (by decide : (1 : Int32).toInt = 1) (by omega) (by omega)
                        refine lv_iinc (v := v378) (lv' := [(9, .int v378), (8, .int 0), (0, .ref h), (1, .int mm), (2, .int a), (3, .int b), (4, .int d), (5, .int k), (6, .int n), (7, .int q)]) hx hb dX12_isWord_105 hl (k := 1) rfl (by rw [ev378]; rfl) (by decide) rfl (fun ls hl => ?_)
                        refine lv_goto (tgt := 18) hx hb dX12_isWord_108 (by decide) ?_
                        have : (0 : Int32).toInt = 0 := (by decide)
                        exact ih364 v378 0 ⟨by omega, by omega⟩ ⟨by decide, by decide⟩ (show (((0 : Int32).toInt = 1 ∧ ((iv 12 38) : Int32).toInt = (mm).toInt ∧ ∀ j : Nat, (j : Int) < (v378 : Int32).toInt → (fun j => sg ((fa 12 32) j).toInt) ((((iv 12 37) : Int32).toInt).toNat + j) = (lt6 a b d k n q) j) ∨ ((0 : Int32).toInt = 0 ∧ ¬ WdG (fun j => sg ((fa 12 32) j).toInt) ((iv 12 37) : Int32).toInt (((iv 12 37) : Int32).toInt + ((iv 12 38) : Int32).toInt) (mm).toInt (lt6 a b d k n q))) from (by
                              refine Or.inr ⟨by omega, fun h9 => ?_⟩
                              obtain ⟨-, h8⟩ := h9
                              have h7 : sg (fa 12 32 ((iv 12 37).toInt.toNat + 4)).toInt = (n : Int32).toInt := h8 4 (by omega)
                              have q0 := congrArg Int32.toInt (ev368.trans (congrArg (fa 12 32) (show (v367 : Int32).toNatClampNeg = (iv 12 37).toInt.toNat + 4 from (by show (v367 : Int32).toInt.toNat = _; omega))))
                              have s0 := sg_i (v368 : Int32).toInt
                              rw [q0] at s0
                              omega)) (show ((0 : Int32).toInt = 0 ∨ ((iv 12 38) : Int32).toInt = (mm).toInt) from by omega) (by omega) ls (lv_sub hl [0, 1, 2, 3, 4, 5, 6, 7, 8, 9] rfl)
                      · have fc377 := z_eq (rfl : (v368).toInt = _) (rfl : (n).toInt = _) c377
                        refine lv_iconst (v := 1) hx hb dX12_isWord_98 (by decide) ?_
                        refine lv_goto (tgt := 103) hx hb dX12_isWord_99 (by decide) ?_
                        refine lv_istore (lv' := [(8, .int 1), (9, .int x363_9), (0, .ref h), (1, .int mm), (2, .int a), (3, .int b), (4, .int d), (5, .int k), (6, .int n), (7, .int q)]) hx hb dX12_isWord_103 hl (by decide) rfl (fun ls hl => ?_)
                        obtain ⟨v379, ev379⟩ : ∃ y : Int32, y = x363_9 + 1 := ⟨_, rfl⟩
                        have tv379 := z_add ev379 rfl (by decide : (1 : Int32).toInt = 1) (by omega) (by omega)
                        refine lv_iinc (v := v379) (lv' := [(9, .int v379), (8, .int 1), (0, .ref h), (1, .int mm), (2, .int a), (3, .int b), (4, .int d), (5, .int k), (6, .int n), (7, .int q)]) hx hb dX12_isWord_105 hl (k := 1) rfl (by rw [ev379]; rfl) (by decide) rfl (fun ls hl => ?_)
                        refine lv_goto (tgt := 18) hx hb dX12_isWord_108 (by decide) ?_
                        have : (1 : Int32).toInt = 1 := (by decide)
                        exact ih364 v379 1 ⟨by omega, by omega⟩ ⟨by decide, by decide⟩ (show (((1 : Int32).toInt = 1 ∧ ((iv 12 38) : Int32).toInt = (mm).toInt ∧ ∀ j : Nat, (j : Int) < (v379 : Int32).toInt → (fun j => sg ((fa 12 32) j).toInt) ((((iv 12 37) : Int32).toInt).toNat + j) = (lt6 a b d k n q) j) ∨ ((1 : Int32).toInt = 0 ∧ ¬ WdG (fun j => sg ((fa 12 32) j).toInt) ((iv 12 37) : Int32).toInt (((iv 12 37) : Int32).toInt + ((iv 12 38) : Int32).toInt) (mm).toInt (lt6 a b d k n q))) from (by
                              rcases hq364_0 with ⟨h1, h2, h3⟩ | ⟨h1, h2⟩
                              · refine Or.inl ⟨by omega, h2, fun j hj => ?_⟩
                                by_cases hj2 : (j : Int) < (x363_9 : Int32).toInt
                                · exact h3 j hj2
                                · have hj3 : j = 4 := by omega
                                  rw [hj3]
                                  have q0 := congrArg Int32.toInt (ev368.trans (congrArg (fa 12 32) (show (v367 : Int32).toNatClampNeg = (iv 12 37).toInt.toNat + 4 from (by show (v367 : Int32).toInt.toNat = _; omega))))
                                  have s0 := sg_i (v368 : Int32).toInt
                                  rw [q0] at s0
                                  show sg (fa 12 32 ((iv 12 37).toInt.toNat + 4)).toInt = (n : Int32).toInt
                                  omega
                              · exfalso; omega)) (show ((1 : Int32).toInt = 0 ∨ ((iv 12 38) : Int32).toInt = (mm).toInt) from by omega) (by omega) ls (lv_sub hl [0, 1, 2, 3, 4, 5, 6, 7, 8, 9] rfl)
                  · have fc372 := z_eq (rfl : (x363_9).toInt = _) (by decide : (3 : Int32).toInt = 3) c372
                    refine lv_iload hx hb dX12_isWord_77 (lv_at hl 7 rfl) ?_
                    refine lv_goto (tgt := 95) hx hb dX12_isWord_79 (by decide) ?_
                    refine lv_icmp_ne (tgt := 102) hx hb dX12_isWord_95 (by decide) (fun c380 => ?_) (fun c380 => ?_)
                    · have fc380 := z_ne (rfl : (v368).toInt = _) (rfl : (k).toInt = _) c380
                      refine lv_iconst (v := 0) hx hb dX12_isWord_102 (by decide) ?_
                      refine lv_istore (lv' := [(8, .int 0), (9, .int x363_9), (0, .ref h), (1, .int mm), (2, .int a), (3, .int b), (4, .int d), (5, .int k), (6, .int n), (7, .int q)]) hx hb dX12_isWord_103 hl (by decide) rfl (fun ls hl => ?_)
                      obtain ⟨v381, ev381⟩ : ∃ y : Int32, y = x363_9 + 1 := ⟨_, rfl⟩
                      have tv381 := z_add ev381 rfl (by decide : (1 : Int32).toInt = 1) (by omega) (by omega)
                      refine lv_iinc (v := v381) (lv' := [(9, .int v381), (8, .int 0), (0, .ref h), (1, .int mm), (2, .int a), (3, .int b), (4, .int d), (5, .int k), (6, .int n), (7, .int q)]) hx hb dX12_isWord_105 hl (k := 1) rfl (by rw [ev381]; rfl) (by decide) rfl (fun ls hl => ?_)
                      refine lv_goto (tgt := 18) hx hb dX12_isWord_108 (by decide) ?_
                      have : (0 : Int32).toInt = 0 := (by decide)
                      exact ih364 v381 0 ⟨by omega, by omega⟩ ⟨by decide, by decide⟩ (show (((0 : Int32).toInt = 1 ∧ ((iv 12 38) : Int32).toInt = (mm).toInt ∧ ∀ j : Nat, (j : Int) < (v381 : Int32).toInt → (fun j => sg ((fa 12 32) j).toInt) ((((iv 12 37) : Int32).toInt).toNat + j) = (lt6 a b d k n q) j) ∨ ((0 : Int32).toInt = 0 ∧ ¬ WdG (fun j => sg ((fa 12 32) j).toInt) ((iv 12 37) : Int32).toInt (((iv 12 37) : Int32).toInt + ((iv 12 38) : Int32).toInt) (mm).toInt (lt6 a b d k n q))) from (by
                            refine Or.inr ⟨by omega, fun h9 => ?_⟩
                            obtain ⟨-, h8⟩ := h9
                            have h7 : sg (fa 12 32 ((iv 12 37).toInt.toNat + 3)).toInt = (k : Int32).toInt := h8 3 (by omega)
                            have q0 := congrArg Int32.toInt (ev368.trans (congrArg (fa 12 32) (show (v367 : Int32).toNatClampNeg = (iv 12 37).toInt.toNat + 3 from (by show (v367 : Int32).toInt.toNat = _; omega))))
                            have s0 := sg_i (v368 : Int32).toInt
                            rw [q0] at s0
                            omega)) (show ((0 : Int32).toInt = 0 ∨ ((iv 12 38) : Int32).toInt = (mm).toInt) from by omega) (by omega) ls (lv_sub hl [0, 1, 2, 3, 4, 5, 6, 7, 8, 9] rfl)
                    · have fc380 := z_eq (rfl : (v368).toInt = _) (rfl : (k).toInt = _) c380
                      refine lv_iconst (v := 1) hx hb dX12_isWord_98 (by decide) ?_
                      refine lv_goto (tgt := 103) hx hb dX12_isWord_99 (by decide) ?_
                      refine lv_istore (lv' := [(8, .int 1), (9, .int x363_9), (0, .ref h), (1, .int mm), (2, .int a), (3, .int b), (4, .int d), (5, .int k), (6, .int n), (7, .int q)]) hx hb dX12_isWord_103 hl (by decide) rfl (fun ls hl => ?_)
                      obtain ⟨v382, ev382⟩ : ∃ y : Int32, y = x363_9 + 1 := ⟨_, rfl⟩
                      have tv382 := z_add ev382 rfl (by decide : (1 : Int32).toInt = 1) (by omega) (by omega)
                      refine lv_iinc (v := v382) (lv' := [(9, .int v382), (8, .int 1), (0, .ref h), (1, .int mm), (2, .int a), (3, .int b), (4, .int d), (5, .int k), (6, .int n), (7, .int q)]) hx hb dX12_isWord_105 hl (k := 1) rfl (by rw [ev382]; rfl) (by decide) rfl (fun ls hl => ?_)
                      refine lv_goto (tgt := 18) hx hb dX12_isWord_108 (by decide) ?_
                      have : (1 : Int32).toInt = 1 := (by decide)
                      exact ih364 v382 1 ⟨by omega, by omega⟩ ⟨by decide, by decide⟩ (show (((1 : Int32).toInt = 1 ∧ ((iv 12 38) : Int32).toInt = (mm).toInt ∧ ∀ j : Nat, (j : Int) < (v382 : Int32).toInt → (fun j => sg ((fa 12 32) j).toInt) ((((iv 12 37) : Int32).toInt).toNat + j) = (lt6 a b d k n q) j) ∨ ((1 : Int32).toInt = 0 ∧ ¬ WdG (fun j => sg ((fa 12 32) j).toInt) ((iv 12 37) : Int32).toInt (((iv 12 37) : Int32).toInt + ((iv 12 38) : Int32).toInt) (mm).toInt (lt6 a b d k n q))) from (by
                            rcases hq364_0 with ⟨h1, h2, h3⟩ | ⟨h1, h2⟩
                            · refine Or.inl ⟨by omega, h2, fun j hj => ?_⟩
                              by_cases hj2 : (j : Int) < (x363_9 : Int32).toInt
                              · exact h3 j hj2
                              · have hj3 : j = 3 := by omega
                                rw [hj3]
                                have q0 := congrArg Int32.toInt (ev368.trans (congrArg (fa 12 32) (show (v367 : Int32).toNatClampNeg = (iv 12 37).toInt.toNat + 3 from (by show (v367 : Int32).toInt.toNat = _; omega))))
                                have s0 := sg_i (v368 : Int32).toInt
                                rw [q0] at s0
                                show sg (fa 12 32 ((iv 12 37).toInt.toNat + 3)).toInt = (k : Int32).toInt
                                omega
                            · exfalso; omega)) (show ((1 : Int32).toInt = 0 ∨ ((iv 12 38) : Int32).toInt = (mm).toInt) from by omega) (by omega) ls (lv_sub hl [0, 1, 2, 3, 4, 5, 6, 7, 8, 9] rfl)
                · have fc371 := z_eq (rfl : (x363_9).toInt = _) (by decide : (2 : Int32).toInt = 2) c371
                  refine lv_iload hx hb dX12_isWord_66 (lv_at hl 6 rfl) ?_
                  refine lv_goto (tgt := 95) hx hb dX12_isWord_68 (by decide) ?_
                  refine lv_icmp_ne (tgt := 102) hx hb dX12_isWord_95 (by decide) (fun c383 => ?_) (fun c383 => ?_)
                  · have fc383 := z_ne (rfl : (v368).toInt = _) (rfl : (d).toInt = _) c383
                    refine lv_iconst (v := 0) hx hb dX12_isWord_102 (by decide) ?_
                    refine lv_istore (lv' := [(8, .int 0), (9, .int x363_9), (0, .ref h), (1, .int mm), (2, .int a), (3, .int b), (4, .int d), (5, .int k), (6, .int n), (7, .int q)]) hx hb dX12_isWord_103 hl (by decide) rfl (fun ls hl => ?_)
                    obtain ⟨v384, ev384⟩ : ∃ y : Int32, y = x363_9 + 1 := ⟨_, rfl⟩
                    have tv384 := z_add ev384 rfl (by decide : (1 : Int32).toInt = 1) (by omega) (by omega)
                    refine lv_iinc (v := v384) (lv' := [(9, .int v384), (8, .int 0), (0, .ref h), (1, .int mm), (2, .int a), (3, .int b), (4, .int d), (5, .int k), (6, .int n), (7, .int q)]) hx hb dX12_isWord_105 hl (k := 1) rfl (by rw [ev384]; rfl) (by decide) rfl (fun ls hl => ?_)
                    refine lv_goto (tgt := 18) hx hb dX12_isWord_108 (by decide) ?_
                    have : (0 : Int32).toInt = 0 := (by decide)
                    exact ih364 v384 0 ⟨by omega, by omega⟩ ⟨by decide, by decide⟩ (show (((0 : Int32).toInt = 1 ∧ ((iv 12 38) : Int32).toInt = (mm).toInt ∧ ∀ j : Nat, (j : Int) < (v384 : Int32).toInt → (fun j => sg ((fa 12 32) j).toInt) ((((iv 12 37) : Int32).toInt).toNat + j) = (lt6 a b d k n q) j) ∨ ((0 : Int32).toInt = 0 ∧ ¬ WdG (fun j => sg ((fa 12 32) j).toInt) ((iv 12 37) : Int32).toInt (((iv 12 37) : Int32).toInt + ((iv 12 38) : Int32).toInt) (mm).toInt (lt6 a b d k n q))) from (by
                          refine Or.inr ⟨by omega, fun h9 => ?_⟩
                          obtain ⟨-, h8⟩ := h9
                          have h7 : sg (fa 12 32 ((iv 12 37).toInt.toNat + 2)).toInt = (d : Int32).toInt := h8 2 (by omega)
                          have q0 := congrArg Int32.toInt (ev368.trans (congrArg (fa 12 32) (show (v367 : Int32).toNatClampNeg = (iv 12 37).toInt.toNat + 2 from (by show (v367 : Int32).toInt.toNat = _; omega))))
                          have s0 := sg_i (v368 : Int32).toInt
                          rw [q0] at s0
                          omega)) (show ((0 : Int32).toInt = 0 ∨ ((iv 12 38) : Int32).toInt = (mm).toInt) from by omega) (by omega) ls (lv_sub hl [0, 1, 2, 3, 4, 5, 6, 7, 8, 9] rfl)
                  · have fc383 := z_eq (rfl : (v368).toInt = _) (rfl : (d).toInt = _) c383
                    refine lv_iconst (v := 1) hx hb dX12_isWord_98 (by decide) ?_
                    refine lv_goto (tgt := 103) hx hb dX12_isWord_99 (by decide) ?_
                    refine lv_istore (lv' := [(8, .int 1), (9, .int x363_9), (0, .ref h), (1, .int mm), (2, .int a), (3, .int b), (4, .int d), (5, .int k), (6, .int n), (7, .int q)]) hx hb dX12_isWord_103 hl (by decide) rfl (fun ls hl => ?_)
                    obtain ⟨v385, ev385⟩ : ∃ y : Int32, y = x363_9 + 1 := ⟨_, rfl⟩
                    have tv385 := z_add ev385 rfl (by decide : (1 : Int32).toInt = 1) (by omega) (by omega)
                    refine lv_iinc (v := v385) (lv' := [(9, .int v385), (8, .int 1), (0, .ref h), (1, .int mm), (2, .int a), (3, .int b), (4, .int d), (5, .int k), (6, .int n), (7, .int q)]) hx hb dX12_isWord_105 hl (k := 1) rfl (by rw [ev385]; rfl) (by decide) rfl (fun ls hl => ?_)
                    refine lv_goto (tgt := 18) hx hb dX12_isWord_108 (by decide) ?_
                    have : (1 : Int32).toInt = 1 := (by decide)
                    exact ih364 v385 1 ⟨by omega, by omega⟩ ⟨by decide, by decide⟩ (show (((1 : Int32).toInt = 1 ∧ ((iv 12 38) : Int32).toInt = (mm).toInt ∧ ∀ j : Nat, (j : Int) < (v385 : Int32).toInt → (fun j => sg ((fa 12 32) j).toInt) ((((iv 12 37) : Int32).toInt).toNat + j) = (lt6 a b d k n q) j) ∨ ((1 : Int32).toInt = 0 ∧ ¬ WdG (fun j => sg ((fa 12 32) j).toInt) ((iv 12 37) : Int32).toInt (((iv 12 37) : Int32).toInt + ((iv 12 38) : Int32).toInt) (mm).toInt (lt6 a b d k n q))) from (by
                          rcases hq364_0 with ⟨h1, h2, h3⟩ | ⟨h1, h2⟩
                          · refine Or.inl ⟨by omega, h2, fun j hj => ?_⟩
                            by_cases hj2 : (j : Int) < (x363_9 : Int32).toInt
                            · exact h3 j hj2
                            · have hj3 : j = 2 := by omega
                              rw [hj3]
                              have q0 := congrArg Int32.toInt (ev368.trans (congrArg (fa 12 32) (show (v367 : Int32).toNatClampNeg = (iv 12 37).toInt.toNat + 2 from (by show (v367 : Int32).toInt.toNat = _; omega))))
                              have s0 := sg_i (v368 : Int32).toInt
                              rw [q0] at s0
                              show sg (fa 12 32 ((iv 12 37).toInt.toNat + 2)).toInt = (d : Int32).toInt
                              omega
                          · exfalso; omega)) (show ((1 : Int32).toInt = 0 ∨ ((iv 12 38) : Int32).toInt = (mm).toInt) from by omega) (by omega) ls (lv_sub hl [0, 1, 2, 3, 4, 5, 6, 7, 8, 9] rfl)
              · have fc370 := z_eq (rfl : (x363_9).toInt = _) (by decide : (1 : Int32).toInt = 1) c370
                refine lv_iload_n hx hb dX12_isWord_56 rfl (lv_at hl 5 rfl) ?_
                refine lv_goto (tgt := 95) hx hb dX12_isWord_57 (by decide) ?_
                refine lv_icmp_ne (tgt := 102) hx hb dX12_isWord_95 (by decide) (fun c386 => ?_) (fun c386 => ?_)
                · have fc386 := z_ne (rfl : (v368).toInt = _) (rfl : (b).toInt = _) c386
                  refine lv_iconst (v := 0) hx hb dX12_isWord_102 (by decide) ?_
                  refine lv_istore (lv' := [(8, .int 0), (9, .int x363_9), (0, .ref h), (1, .int mm), (2, .int a), (3, .int b), (4, .int d), (5, .int k), (6, .int n), (7, .int q)]) hx hb dX12_isWord_103 hl (by decide) rfl (fun ls hl => ?_)
                  obtain ⟨v387, ev387⟩ : ∃ y : Int32, y = x363_9 + 1 := ⟨_, rfl⟩
                  have tv387 := z_add ev387 rfl (by decide : (1 : Int32).toInt = 1) (by omega) (by omega)
                  refine lv_iinc (v := v387) (lv' := [(9, .int v387), (8, .int 0), (0, .ref h), (1, .int mm), (2, .int a), (3, .int b), (4, .int d), (5, .int k), (6, .int n), (7, .int q)]) hx hb dX12_isWord_105 hl (k := 1) rfl (by rw [ev387]; rfl) (by decide) rfl (fun ls hl => ?_)
                  refine lv_goto (tgt := 18) hx hb dX12_isWord_108 (by decide) ?_
                  have : (0 : Int32).toInt = 0 := (by decide)
                  exact ih364 v387 0 ⟨by omega, by omega⟩ ⟨by decide, by decide⟩ (show (((0 : Int32).toInt = 1 ∧ ((iv 12 38) : Int32).toInt = (mm).toInt ∧ ∀ j : Nat, (j : Int) < (v387 : Int32).toInt → (fun j => sg ((fa 12 32) j).toInt) ((((iv 12 37) : Int32).toInt).toNat + j) = (lt6 a b d k n q) j) ∨ ((0 : Int32).toInt = 0 ∧ ¬ WdG (fun j => sg ((fa 12 32) j).toInt) ((iv 12 37) : Int32).toInt (((iv 12 37) : Int32).toInt + ((iv 12 38) : Int32).toInt) (mm).toInt (lt6 a b d k n q))) from (by
                        refine Or.inr ⟨by omega, fun h9 => ?_⟩
                        obtain ⟨-, h8⟩ := h9
                        have h7 : sg (fa 12 32 ((iv 12 37).toInt.toNat + 1)).toInt = (b : Int32).toInt := h8 1 (by omega)
                        have q0 := congrArg Int32.toInt (ev368.trans (congrArg (fa 12 32) (show (v367 : Int32).toNatClampNeg = (iv 12 37).toInt.toNat + 1 from (by show (v367 : Int32).toInt.toNat = _; omega))))
                        have s0 := sg_i (v368 : Int32).toInt
                        rw [q0] at s0
                        omega)) (show ((0 : Int32).toInt = 0 ∨ ((iv 12 38) : Int32).toInt = (mm).toInt) from by omega) (by omega) ls (lv_sub hl [0, 1, 2, 3, 4, 5, 6, 7, 8, 9] rfl)
                · have fc386 := z_eq (rfl : (v368).toInt = _) (rfl : (b).toInt = _) c386
                  refine lv_iconst (v := 1) hx hb dX12_isWord_98 (by decide) ?_
                  refine lv_goto (tgt := 103) hx hb dX12_isWord_99 (by decide) ?_
                  refine lv_istore (lv' := [(8, .int 1), (9, .int x363_9), (0, .ref h), (1, .int mm), (2, .int a), (3, .int b), (4, .int d), (5, .int k), (6, .int n), (7, .int q)]) hx hb dX12_isWord_103 hl (by decide) rfl (fun ls hl => ?_)
                  obtain ⟨v388, ev388⟩ : ∃ y : Int32, y = x363_9 + 1 := ⟨_, rfl⟩
                  have tv388 := z_add ev388 rfl (by decide : (1 : Int32).toInt = 1) (by omega) (by omega)
                  refine lv_iinc (v := v388) (lv' := [(9, .int v388), (8, .int 1), (0, .ref h), (1, .int mm), (2, .int a), (3, .int b), (4, .int d), (5, .int k), (6, .int n), (7, .int q)]) hx hb dX12_isWord_105 hl (k := 1) rfl (by rw [ev388]; rfl) (by decide) rfl (fun ls hl => ?_)
                  refine lv_goto (tgt := 18) hx hb dX12_isWord_108 (by decide) ?_
                  have : (1 : Int32).toInt = 1 := (by decide)
                  exact ih364 v388 1 ⟨by omega, by omega⟩ ⟨by decide, by decide⟩ (show (((1 : Int32).toInt = 1 ∧ ((iv 12 38) : Int32).toInt = (mm).toInt ∧ ∀ j : Nat, (j : Int) < (v388 : Int32).toInt → (fun j => sg ((fa 12 32) j).toInt) ((((iv 12 37) : Int32).toInt).toNat + j) = (lt6 a b d k n q) j) ∨ ((1 : Int32).toInt = 0 ∧ ¬ WdG (fun j => sg ((fa 12 32) j).toInt) ((iv 12 37) : Int32).toInt (((iv 12 37) : Int32).toInt + ((iv 12 38) : Int32).toInt) (mm).toInt (lt6 a b d k n q))) from (by
                        rcases hq364_0 with ⟨h1, h2, h3⟩ | ⟨h1, h2⟩
                        · refine Or.inl ⟨by omega, h2, fun j hj => ?_⟩
                          by_cases hj2 : (j : Int) < (x363_9 : Int32).toInt
                          · exact h3 j hj2
                          · have hj3 : j = 1 := by omega
                            rw [hj3]
                            have q0 := congrArg Int32.toInt (ev368.trans (congrArg (fa 12 32) (show (v367 : Int32).toNatClampNeg = (iv 12 37).toInt.toNat + 1 from (by show (v367 : Int32).toInt.toNat = _; omega))))
                            have s0 := sg_i (v368 : Int32).toInt
                            rw [q0] at s0
                            show sg (fa 12 32 ((iv 12 37).toInt.toNat + 1)).toInt = (b : Int32).toInt
                            omega
                        · exfalso; omega)) (show ((1 : Int32).toInt = 0 ∨ ((iv 12 38) : Int32).toInt = (mm).toInt) from by omega) (by omega) ls (lv_sub hl [0, 1, 2, 3, 4, 5, 6, 7, 8, 9] rfl)
            · have fc369 := z_eq (rfl : (x363_9).toInt = _) (by decide : (0 : Int32).toInt = 0) c369
              refine lv_iload_n hx hb dX12_isWord_46 rfl (lv_at hl 4 rfl) ?_
              refine lv_goto (tgt := 95) hx hb dX12_isWord_47 (by decide) ?_
              refine lv_icmp_ne (tgt := 102) hx hb dX12_isWord_95 (by decide) (fun c389 => ?_) (fun c389 => ?_)
              · have fc389 := z_ne (rfl : (v368).toInt = _) (rfl : (a).toInt = _) c389
                refine lv_iconst (v := 0) hx hb dX12_isWord_102 (by decide) ?_
                refine lv_istore (lv' := [(8, .int 0), (9, .int x363_9), (0, .ref h), (1, .int mm), (2, .int a), (3, .int b), (4, .int d), (5, .int k), (6, .int n), (7, .int q)]) hx hb dX12_isWord_103 hl (by decide) rfl (fun ls hl => ?_)
                obtain ⟨v390, ev390⟩ : ∃ y : Int32, y = x363_9 + 1 := ⟨_, rfl⟩
                have tv390 := z_add ev390 rfl (by decide : (1 : Int32).toInt = 1) (by omega) (by omega)
                refine lv_iinc (v := v390) (lv' := [(9, .int v390), (8, .int 0), (0, .ref h), (1, .int mm), (2, .int a), (3, .int b), (4, .int d), (5, .int k), (6, .int n), (7, .int q)]) hx hb dX12_isWord_105 hl (k := 1) rfl (by rw [ev390]; rfl) (by decide) rfl (fun ls hl => ?_)
                refine lv_goto (tgt := 18) hx hb dX12_isWord_108 (by decide) ?_
                have : (0 : Int32).toInt = 0 := (by decide)
                exact ih364 v390 0 ⟨by omega, by omega⟩ ⟨by decide, by decide⟩ (show (((0 : Int32).toInt = 1 ∧ ((iv 12 38) : Int32).toInt = (mm).toInt ∧ ∀ j : Nat, (j : Int) < (v390 : Int32).toInt → (fun j => sg ((fa 12 32) j).toInt) ((((iv 12 37) : Int32).toInt).toNat + j) = (lt6 a b d k n q) j) ∨ ((0 : Int32).toInt = 0 ∧ ¬ WdG (fun j => sg ((fa 12 32) j).toInt) ((iv 12 37) : Int32).toInt (((iv 12 37) : Int32).toInt + ((iv 12 38) : Int32).toInt) (mm).toInt (lt6 a b d k n q))) from (by
                      refine Or.inr ⟨by omega, fun h9 => ?_⟩
                      obtain ⟨-, h8⟩ := h9
                      have h7 : sg (fa 12 32 ((iv 12 37).toInt.toNat + 0)).toInt = (a : Int32).toInt := h8 0 (by omega)
                      have q0 := congrArg Int32.toInt (ev368.trans (congrArg (fa 12 32) (show (v367 : Int32).toNatClampNeg = (iv 12 37).toInt.toNat + 0 from (by show (v367 : Int32).toInt.toNat = _; omega))))
                      have s0 := sg_i (v368 : Int32).toInt
                      rw [q0] at s0
                      omega)) (show ((0 : Int32).toInt = 0 ∨ ((iv 12 38) : Int32).toInt = (mm).toInt) from by omega) (by omega) ls (lv_sub hl [0, 1, 2, 3, 4, 5, 6, 7, 8, 9] rfl)
              · have fc389 := z_eq (rfl : (v368).toInt = _) (rfl : (a).toInt = _) c389
                refine lv_iconst (v := 1) hx hb dX12_isWord_98 (by decide) ?_
                refine lv_goto (tgt := 103) hx hb dX12_isWord_99 (by decide) ?_
                refine lv_istore (lv' := [(8, .int 1), (9, .int x363_9), (0, .ref h), (1, .int mm), (2, .int a), (3, .int b), (4, .int d), (5, .int k), (6, .int n), (7, .int q)]) hx hb dX12_isWord_103 hl (by decide) rfl (fun ls hl => ?_)
                obtain ⟨v391, ev391⟩ : ∃ y : Int32, y = x363_9 + 1 := ⟨_, rfl⟩
                have tv391 := z_add ev391 rfl (by decide : (1 : Int32).toInt = 1) (by omega) (by omega)
                refine lv_iinc (v := v391) (lv' := [(9, .int v391), (8, .int 1), (0, .ref h), (1, .int mm), (2, .int a), (3, .int b), (4, .int d), (5, .int k), (6, .int n), (7, .int q)]) hx hb dX12_isWord_105 hl (k := 1) rfl (by rw [ev391]; rfl) (by decide) rfl (fun ls hl => ?_)
                refine lv_goto (tgt := 18) hx hb dX12_isWord_108 (by decide) ?_
                have : (1 : Int32).toInt = 1 := (by decide)
                exact ih364 v391 1 ⟨by omega, by omega⟩ ⟨by decide, by decide⟩ (show (((1 : Int32).toInt = 1 ∧ ((iv 12 38) : Int32).toInt = (mm).toInt ∧ ∀ j : Nat, (j : Int) < (v391 : Int32).toInt → (fun j => sg ((fa 12 32) j).toInt) ((((iv 12 37) : Int32).toInt).toNat + j) = (lt6 a b d k n q) j) ∨ ((1 : Int32).toInt = 0 ∧ ¬ WdG (fun j => sg ((fa 12 32) j).toInt) ((iv 12 37) : Int32).toInt (((iv 12 37) : Int32).toInt + ((iv 12 38) : Int32).toInt) (mm).toInt (lt6 a b d k n q))) from (by
                      rcases hq364_0 with ⟨h1, h2, h3⟩ | ⟨h1, h2⟩
                      · refine Or.inl ⟨by omega, h2, fun j hj => ?_⟩
                        by_cases hj2 : (j : Int) < (x363_9 : Int32).toInt
                        · exact h3 j hj2
                        · have hj3 : j = 0 := by omega
                          rw [hj3]
                          have q0 := congrArg Int32.toInt (ev368.trans (congrArg (fa 12 32) (show (v367 : Int32).toNatClampNeg = (iv 12 37).toInt.toNat + 0 from (by show (v367 : Int32).toInt.toNat = _; omega))))
                          have s0 := sg_i (v368 : Int32).toInt
                          rw [q0] at s0
                          show sg (fa 12 32 ((iv 12 37).toInt.toNat + 0)).toInt = (a : Int32).toInt
                          omega
                      · exfalso; omega)) (show ((1 : Int32).toInt = 0 ∨ ((iv 12 38) : Int32).toInt = (mm).toInt) from by omega) (by omega) ls (lv_sub hl [0, 1, 2, 3, 4, 5, 6, 7, 8, 9] rfl)
    have : (0 : Int32).toInt = 0 := (by decide)
    have : (1 : Int32).toInt = 1 := (by decide)
    have i_12_37 : 0 ≤ (iv 12 37).toInt ∧ (iv 12 37).toInt ≤ 200 := hI.1 12 37
    exact lp364 7 0 1 ⟨by decide, by decide⟩ ⟨by decide, by decide⟩ (show (((1 : Int32).toInt = 1 ∧ ((iv 12 38) : Int32).toInt = (mm).toInt ∧ ∀ j : Nat, (j : Int) < (0 : Int32).toInt → (fun j => sg ((fa 12 32) j).toInt) ((((iv 12 37) : Int32).toInt).toNat + j) = (lt6 a b d k n q) j) ∨ ((1 : Int32).toInt = 0 ∧ ¬ WdG (fun j => sg ((fa 12 32) j).toInt) ((iv 12 37) : Int32).toInt (((iv 12 37) : Int32).toInt + ((iv 12 38) : Int32).toInt) (mm).toInt (lt6 a b d k n q))) from Or.inl ⟨by omega, by omega, fun j hj => absurd hj (by omega)⟩) (show ((1 : Int32).toInt = 0 ∨ ((iv 12 38) : Int32).toInt = (mm).toInt) from by omega) (by first | decide | omega) ls (lv_sub hl [0, 1, 2, 3, 4, 5, 6, 7, 8, 9] rfl)
