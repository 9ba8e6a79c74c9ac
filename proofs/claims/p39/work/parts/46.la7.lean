/-! ===== la7 ===== -/
set_option maxHeartbeats 4000000 in
set_option maxRecDepth 100000 in
/-- X12_findLawful -/
theorem c_X12_findLawful_w (l : Launch) (dC : Nat → ClassId) (dI : Nat → Nat → Nat) (sz : Nat) (h : Nat) (g : Nat → Nat → Nat) (ca : Nat → Nat → ClassId) (iv : Nat → Nat → Int32) (lv : Nat → Nat → Int64) (fa : Nat → Nat → Nat → Int32) (la : Nat → Nat → Nat → Int64) (hI : IX iv fa) (a : Int32) (b : Int64) (d : Int64) (k : Int32) (h_a : 0 ≤ a.toInt ∧ a.toInt ≤ 9) (h_b : 1 ≤ b.toInt ∧ b.toInt ≤ 28794240288) (h_d : 1 ≤ d.toInt ∧ d.toInt ≤ 28794240288) (p_0 : a.toInt < (iv 12 1).toInt) (hJC : JCf (iv 12 23).toInt (fa 12 25) (fa 12 26) (fa 12 27) (fa 12 28)) (hJK : ∀ k j : Nat, (k : Int) < (iv 12 23).toInt → 12 * k ≤ j → (j : Int) < 12 * (k : Int) + (fa 12 25 k).toInt → (fa 12 26 j).toInt = 3 → 0 ≤ (fa 12 28 j).toInt ∧ (fa 12 28 j).toInt < (k : Int)) (hJH : ∀ a d v : Int, 0 ≤ a → a ≤ 5 → FoY (iv 12 23).toInt (fa 12 24) (fa 12 25) (fa 12 26) (fa 12 27) (fa 12 28) a d v → fLo a ≤ v ∧ v ≤ fHi a) (hJI : ∀ j : Nat, (j : Int) < (iv 12 1).toInt → 1 ≤ (fa 12 2 j).toInt ∧ (fa 12 2 j).toInt ≤ 99999) : Met l yX12_findLawful (wc yX12_findLawful cX12_findLawful 23 none) ({ frames := 2, cells := 0, slots := 0, locals := 50 } : Room) (pW (dC, dI) classes (WM h g ca iv lv fa la) (TM ca) sz [.ref h, .int a, .long b, .long d, .int k]) (va_Qv (fun (u : SS) => ∃ (na_12_39 : Nat → Int32) (na_12_40 : Nat → Int32) (ni_12_41 : Int32) (nl_12_46 : Int64) (nl_12_47 : Int64), (∀ j, inb (bA 12 39 j) (na_12_39 j)) ∧ (∀ j, inb (bA 12 40 j) (na_12_40 j)) ∧ inb (bI 12 41) ni_12_41 ∧ (∃ wt : Int, FoY (iv 12 23).toInt (fa 12 24) (fa 12 25) (fa 12 26) (fa 12 27) (fa 12 28) 0 k.toInt wt ∧ 0 ≤ wt ∧ wt ≤ 300 ∧ LwY b.toInt d.toInt (((fa 12 2) (a.toInt).toNat).toInt * (1000 + wt)) (nl_12_46).toInt (nl_12_47).toInt) ∧ u = ((u2 iv 12 41 ni_12_41), (u2 (u2 lv 12 46 nl_12_46) 12 47 nl_12_47), (u2 (u2 fa 12 39 na_12_39) 12 40 na_12_40), la)) (bM (dC, dI) h g ca (va_A (WM h g ca iv lv fa la) sz)) (va_A (WM h g ca iv lv fa la) sz)) 0 0 (va_A (WM h g ca iv lv fa la) sz) := by
  refine Met.ofW (cc := cX12_findLawful) (maxL := 23) (ret := none) (by decide) rfl ?_
  intro p e s m args below meth c s₁ B hml hv
  obtain ⟨rfl, hsz, hP, hK, hD0⟩ := hv
  have hx := B.exec
  have hb := B.bytes
  have hr := B.returns
  have ht := tb_tl (atoms_spec (ws := wc yX12_findLawful cX12_findLawful 23 none) B.pre)
  have hown : s.vm.findClass RX12 = some m.cls := findClass_of_methodNamed B.named
  have hlocks := B.notSynchronized
  subst hsz
  have hD := hD0.self (sz := s.heap.size)
  generalize hAe : va_A (WM h g ca iv lv fa la) s.heap.size = A at hD ⊢
  have hA : ∀ q : Nat, s.heap.size ≤ q → A q := fun q h => by rw [← hAe]; exact Or.inr h
  have hS : va_S A s.heap s.heap [] := va_S.rf
  have hl := lv_entry [.ref h, .int a, .long b, .long d, .int k] (n := 23) (Nat.le_of_ble_eq_true rfl)
  rw [lg_entry_eq]
  generalize (lg_sl [.ref h, .int a, .long b, .long d, .int k] ++ List.replicate (23 - (lg_sl [.ref h, .int a, .long b, .long d, .int k]).length) Slot.unset).toArray = ls at hl ⊢
  have hl : lv_has ls 23 [(0, .ref h), (1, .int a), (2, .long b), (4, .long d), (6, .int k)] := hl
  refine lv_lload_n hx hb dX12_findLawful_0 rfl (lv_at hl 2 rfl) ?_
  refine lv_lload hx hb dX12_findLawful_1 (lv_at hl 3 rfl) ?_
  refine vp_callSl (W.runS (As := [.long b, .long d]) (rest := []) ⟨hx, hb, hml, hown, ht⟩ (c_X12_gcd_g l dC dI b d (show 0 ≤ (b : Int64).toInt from by omega) (show 0 ≤ (d : Int64).toInt from by omega)) (kS 2 ht m_1442 m_1443 m_89 m_1444 rfl rfl hd_X12_gcd_v ⟨Nat.le_of_ble_eq_true rfl, Nat.le_of_ble_eq_true rfl⟩) (sR noP (hK.sub (tys' := []) [] rfl)) rfl rfl hl.1 rfl (lv_room (Nat.le_of_ble_eq_true rfl)) dX12_findLawful_3 ⟨Nat.le_of_ble_eq_true rfl, Nat.le_of_ble_eq_true rfl⟩) (fun r1 hr1 => ?_)
  obtain ⟨hr1, xr1_0⟩ := hr1
  have xr1_0 : (r1 : Int64).toInt = gN (b : Int64).toInt (d : Int64).toInt := xr1_0
  have g9_1 := gdi (x := (b : Int64).toInt) (y := (d : Int64).toInt) (by omega) (by omega)
  rw [← xr1_0] at g9_1
  have gg1 := xr1_0
  obtain ⟨gp1, ga1, gb1⟩ := g9_1
  refine lv_lstore (lv' := [(7, .long r1), (0, .ref h), (1, .int a), (2, .long b), (4, .long d), (6, .int k)]) hx hb dX12_findLawful_6 hl (by decide) rfl (fun ls hl => ?_)
  refine lv_lload_n hx hb dX12_findLawful_8 rfl (lv_at hl 3 rfl) ?_
  refine lv_lload hx hb dX12_findLawful_9 (lv_at hl 0 rfl) ?_
  have zw2 : (r1 : Int64).toInt ≠ 0 := by omega
  refine lv_ldiv hx hb dX12_findLawful_11 (l_nz rfl zw2) ?_
  refine lv_topl (fun w2 ew2 => ?_)
  have m9_1a := l_divp ew2 (rfl : (b : Int64).toInt = _) (rfl : _ = _) (by omega) (by omega)
  have n9_1a : 1 ≤ (w2 : Int64).toInt ∧ (w2 : Int64).toInt ≤ (b : Int64).toInt := by rw [m9_1a]; exact ga1
  refine lv_lstore (lv' := [(9, .long w2), (7, .long r1), (0, .ref h), (1, .int a), (2, .long b), (4, .long d), (6, .int k)]) hx hb dX12_findLawful_12 hl (by decide) rfl (fun ls hl => ?_)
  refine lv_lload hx hb dX12_findLawful_14 (lv_at hl 5 rfl) ?_
  refine lv_lload hx hb dX12_findLawful_16 (lv_at hl 1 rfl) ?_
  have zw3 : (r1 : Int64).toInt ≠ 0 := by omega
  refine lv_ldiv hx hb dX12_findLawful_18 (l_nz rfl zw3) ?_
  refine lv_topl (fun w3 ew3 => ?_)
  have m9_1b := l_divp ew3 (rfl : (d : Int64).toInt = _) (rfl : _ = _) (by omega) (by omega)
  have n9_1b : 1 ≤ (w3 : Int64).toInt ∧ (w3 : Int64).toInt ≤ (d : Int64).toInt := by rw [m9_1b]; exact gb1
  refine lv_lstore (lv' := [(11, .long w3), (9, .long w2), (7, .long r1), (0, .ref h), (1, .int a), (2, .long b), (4, .long d), (6, .int k)]) hx hb dX12_findLawful_19 hl (by decide) rfl (fun ls hl => ?_)
  refine lv_aload_n hx hb dX12_findLawful_21 rfl (lv_at hl 3 rfl) ?_
  refine gM_12_2 hx hb ht hown hK hP m_1141 dX12_findLawful_22 ?_
  refine lv_iload_n hx hb dX12_findLawful_25 rfl (lv_at hl 4 rfl) ?_
  refine lM_12_2 hx hb hK hP (f := (fa 12 2)) rfl (vp_in_iff.mpr ⟨by omega, by omega⟩) dX12_findLawful_26 ?_
  refine lv_topi (fun v4 ev4 => ?_)
  refine lv_i2l (v := (v4.toInt64)) hx hb dX12_findLawful_27 rfl ?_
  refine lv_sipush (v := 1000) hx hb dX12_findLawful_28 (by decide) ?_
  refine lv_aload_n hx hb dX12_findLawful_31 rfl (lv_at hl 3 rfl) ?_
  refine lv_iconst (v := 0) hx hb dX12_findLawful_32 (by decide) ?_
  refine lv_iload hx hb dX12_findLawful_33 (lv_at hl 7 rfl) ?_
  have hFc := free_all hD hS hA
  refine va_calli (va_runV (As := [.int 0, .int k]) (rest := [.int 1000, .long (v4.toInt64)]) ⟨hx, hb, hml, hown, ht⟩ (c_X12_forceOf_f l dC dI s.heap.size h g ca iv lv fa la hI 0 k ⟨by decide, by decide⟩ hJC hJK) (kV 2 ht m_1509 m_1511 m_55 m_89 m_1512 rfl rfl hd_X12_forceOf_v ⟨Nat.le_of_ble_eq_true rfl, Nat.le_of_ble_eq_true rfl⟩) (vW hP hK hD (rM_12 hK hP)) rfl rfl hl.1 rfl (lv_room (Nat.le_of_ble_eq_true rfl)) dX12_findLawful_35 ⟨Nat.le_of_ble_eq_true rfl, Nat.le_of_ble_eq_true rfl⟩) hS (fun q _ h => hFc q h) hFc (fun r5 u t H1 locs ht9 hvm hr5 hB hz1 hk1 hS => ?_)
  obtain ⟨n6, n7, n8, hn6, hn7, hn8, xr5_0, hr5, rfl⟩ := hr5
  have hn8 : 0 ≤ n8.toInt ∧ n8.toInt ≤ 8 := hn8
  obtain ⟨hP, hD⟩ := hB
  rw [ht9] at hP
  generalize H1 = H at hP hS ⊢
  have hP : va_P (dC, dI) classes (WM h g ca (u2 iv 12 41 n8) lv (u2 (u2 fa 12 39 n6) 12 40 n7) la) H := hP
  have hD : va_D A (WM h g ca (u2 iv 12 41 n8) lv (u2 (u2 fa 12 39 n6) 12 40 n7) la) := (show va_D _ (WM h g ca (u2 iv 12 41 n8) lv (u2 (u2 fa 12 39 n6) 12 40 n7) la) from hD).weaken (fun _ _ _ h => hFc _ h)
  have i_12_23 : 0 ≤ (iv 12 23).toInt ∧ (iv 12 23).toInt ≤ 8 := hI.1 12 23
  have : (0 : Int32).toInt = 0 := (by decide)
  have xr5_0 : FoY ((iv 12 23) : Int32).toInt (fa 12 24) (fa 12 25) (fa 12 26) (fa 12 27) (fa 12 28) (0 : Int32).toInt (k : Int32).toInt (r5 : Int32).toInt := xr5_0
  have hf9 := f0_of (hJH 0 k.toInt (r5 : Int32).toInt (by decide) (by decide) xr5_0)
  refine lv_iadd hx hb dX12_findLawful_38 ?_
  refine lv_topi (fun v9 ev9 => ?_)
  have tv9 := z_add ev9 (by decide : (1000 : Int32).toInt = 1000) (rfl : (r5).toInt = _) (by omega) (by omega)
  refine lv_i2l (v := (v9.toInt64)) hx hb dX12_findLawful_39 rfl ?_
  refine lv_lmul hx hb dX12_findLawful_40 ?_
  refine lv_topl (fun w10 ew10 => ?_)
  have hg9 := hJI (a.toInt).toNat (by omega)
  have hl9 : (v4 : Int32) = fa 12 2 (a.toInt).toNat := ev4
  rw [← hl9] at hg9
  have hy9 := y_y (g := v4) (r := r5) (k := v9) (by omega) ew10 hg9 hf9
  obtain ⟨hy1, hy2, hy3⟩ := hy9
  refine lv_lstore (lv' := [(13, .long w10), (11, .long w3), (9, .long w2), (7, .long r1), (0, .ref h), (1, .int a), (2, .long b), (4, .long d), (6, .int k)]) hx hb dX12_findLawful_41 hl (by decide) rfl (fun ls hl => ?_)
  refine lv_lload hx hb dX12_findLawful_43 (lv_at hl 0 rfl) ?_
  refine lv_lload hx hb dX12_findLawful_45 (lv_at hl 1 rfl) ?_
  refine vp_callSl (W.runS (As := [.long w10, .long w3]) (rest := []) ⟨hx, hb, hml, hown, ht⟩ (c_X12_gcd_g l dC dI w10 w3 (show 0 ≤ (w10 : Int64).toInt from by omega) (show 0 ≤ (w3 : Int64).toInt from by omega)) (kS 2 ht m_1442 m_1443 m_89 m_1444 rfl rfl hd_X12_gcd_v ⟨Nat.le_of_ble_eq_true rfl, Nat.le_of_ble_eq_true rfl⟩) (sR noP (hK.sub (tys' := []) [] rfl)) rfl rfl hl.1 rfl (lv_room (Nat.le_of_ble_eq_true rfl)) dX12_findLawful_47 ⟨Nat.le_of_ble_eq_true rfl, Nat.le_of_ble_eq_true rfl⟩) (fun r11 hr11 => ?_)
  obtain ⟨hr11, xr11_0⟩ := hr11
  have xr11_0 : (r11 : Int64).toInt = gN (w10 : Int64).toInt (w3 : Int64).toInt := xr11_0
  have g9_2 := gdi (x := (w10 : Int64).toInt) (y := (w3 : Int64).toInt) (by omega) (by omega)
  rw [← xr11_0] at g9_2
  have gg2 := xr11_0
  obtain ⟨gp2, ga2, gb2⟩ := g9_2
  refine lv_lstore (lv' := [(15, .long r11), (13, .long w10), (11, .long w3), (9, .long w2), (7, .long r1), (0, .ref h), (1, .int a), (2, .long b), (4, .long d), (6, .int k)]) hx hb dX12_findLawful_50 hl (by decide) rfl (fun ls hl => ?_)
  refine lv_lload hx hb dX12_findLawful_52 (lv_at hl 1 rfl) ?_
  refine lv_lload hx hb dX12_findLawful_54 (lv_at hl 0 rfl) ?_
  have zw12 : (r11 : Int64).toInt ≠ 0 := by omega
  refine lv_ldiv hx hb dX12_findLawful_56 (l_nz rfl zw12) ?_
  refine lv_topl (fun w12 ew12 => ?_)
  have m9_2a := l_divp ew12 (rfl : (w10 : Int64).toInt = _) (rfl : _ = _) (by omega) (by omega)
  have n9_2a : 1 ≤ (w12 : Int64).toInt ∧ (w12 : Int64).toInt ≤ (w10 : Int64).toInt := by rw [m9_2a]; exact ga2
  refine lv_lstore (lv' := [(13, .long w12), (15, .long r11), (11, .long w3), (9, .long w2), (7, .long r1), (0, .ref h), (1, .int a), (2, .long b), (4, .long d), (6, .int k)]) hx hb dX12_findLawful_57 hl (by decide) rfl (fun ls hl => ?_)
  refine lv_lload hx hb dX12_findLawful_59 (lv_at hl 2 rfl) ?_
  refine lv_lload hx hb dX12_findLawful_61 (lv_at hl 1 rfl) ?_
  have zw13 : (r11 : Int64).toInt ≠ 0 := by omega
  refine lv_ldiv hx hb dX12_findLawful_63 (l_nz rfl zw13) ?_
  refine lv_topl (fun w13 ew13 => ?_)
  have m9_2b := l_divp ew13 (rfl : (w3 : Int64).toInt = _) (rfl : _ = _) (by omega) (by omega)
  have n9_2b : 1 ≤ (w13 : Int64).toInt ∧ (w13 : Int64).toInt ≤ (w3 : Int64).toInt := by rw [m9_2b]; exact gb2
  refine lv_lstore (lv' := [(11, .long w13), (13, .long w12), (15, .long r11), (9, .long w2), (7, .long r1), (0, .ref h), (1, .int a), (2, .long b), (4, .long d), (6, .int k)]) hx hb dX12_findLawful_64 hl (by decide) rfl (fun ls hl => ?_)
  refine lv_lload hx hb dX12_findLawful_66 (lv_at hl 3 rfl) ?_
  refine lv_ldc2 hx hb hown (ht _ m_1543) dX12_findLawful_68 ?_
  have : (1000 : Int64).toInt = 1000 := (by decide)
  refine vp_callSl (W.runS (As := [.long w2, .long 1000]) (rest := []) ⟨hx, hb, hml, hown, ht⟩ (c_X12_gcd_g l dC dI w2 1000 (show 0 ≤ (w2 : Int64).toInt from by omega) (show 0 ≤ (1000 : Int64).toInt from by omega)) (kS 2 ht m_1442 m_1443 m_89 m_1444 rfl rfl hd_X12_gcd_v ⟨Nat.le_of_ble_eq_true rfl, Nat.le_of_ble_eq_true rfl⟩) (sR noP (hK.sub (tys' := []) [] rfl)) rfl rfl hl.1 rfl (lv_room (Nat.le_of_ble_eq_true rfl)) dX12_findLawful_71 ⟨Nat.le_of_ble_eq_true rfl, Nat.le_of_ble_eq_true rfl⟩) (fun r14 hr14 => ?_)
  obtain ⟨hr14, xr14_0⟩ := hr14
  have xr14_0 : (r14 : Int64).toInt = gN (w2 : Int64).toInt (1000 : Int64).toInt := xr14_0
  have g9_3 := gdi (x := (w2 : Int64).toInt) (y := (1000 : Int64).toInt) (by omega) (by omega)
  rw [← xr14_0] at g9_3
  have gg3 := xr14_0
  obtain ⟨gp3, ga3, gb3⟩ := g9_3
  refine lv_lstore (lv' := [(17, .long r14), (11, .long w13), (13, .long w12), (15, .long r11), (9, .long w2), (7, .long r1), (0, .ref h), (1, .int a), (2, .long b), (4, .long d), (6, .int k)]) hx hb dX12_findLawful_74 hl (by decide) rfl (fun ls hl => ?_)
  refine lv_lload hx hb dX12_findLawful_76 (lv_at hl 4 rfl) ?_
  refine lv_lload hx hb dX12_findLawful_78 (lv_at hl 0 rfl) ?_
  have zw15 : (r14 : Int64).toInt ≠ 0 := by omega
  refine lv_ldiv hx hb dX12_findLawful_80 (l_nz rfl zw15) ?_
  refine lv_topl (fun w15 ew15 => ?_)
  have m9_3a := l_divp ew15 (rfl : (w2 : Int64).toInt = _) (rfl : _ = _) (by omega) (by omega)
  have n9_3a : 1 ≤ (w15 : Int64).toInt ∧ (w15 : Int64).toInt ≤ (w2 : Int64).toInt := by rw [m9_3a]; exact ga3
  refine lv_lstore (lv' := [(9, .long w15), (17, .long r14), (11, .long w13), (13, .long w12), (15, .long r11), (7, .long r1), (0, .ref h), (1, .int a), (2, .long b), (4, .long d), (6, .int k)]) hx hb dX12_findLawful_81 hl (by decide) rfl (fun ls hl => ?_)
  refine lv_ldc2 hx hb hown (ht _ m_1543) dX12_findLawful_83 ?_
  refine lv_lload hx hb dX12_findLawful_86 (lv_at hl 1 rfl) ?_
  have zw16 : (r14 : Int64).toInt ≠ 0 := by omega
  refine lv_ldiv hx hb dX12_findLawful_88 (l_nz rfl zw16) ?_
  refine lv_topl (fun w16 ew16 => ?_)
  have m9_3b := l_divp ew16 (by decide : (1000 : Int64).toInt = 1000) (rfl : _ = _) (by omega) (by omega)
  have n9_3b : 1 ≤ (w16 : Int64).toInt ∧ (w16 : Int64).toInt ≤ 1000 := by rw [m9_3b]; exact gb3
  refine lv_lstore (lv' := [(19, .long w16), (9, .long w15), (17, .long r14), (11, .long w13), (13, .long w12), (15, .long r11), (7, .long r1), (0, .ref h), (1, .int a), (2, .long b), (4, .long d), (6, .int k)]) hx hb dX12_findLawful_89 hl (by decide) rfl (fun ls hl => ?_)
  refine lv_lload hx hb dX12_findLawful_91 (lv_at hl 4 rfl) ?_
  refine lv_lload hx hb dX12_findLawful_93 (lv_at hl 0 rfl) ?_
  refine vp_callSl (W.runS (As := [.long w12, .long w16]) (rest := []) ⟨hx, hb, hml, hown, ht⟩ (c_X12_gcd_g l dC dI w12 w16 (show 0 ≤ (w12 : Int64).toInt from by omega) (show 0 ≤ (w16 : Int64).toInt from by omega)) (kS 2 ht m_1442 m_1443 m_89 m_1444 rfl rfl hd_X12_gcd_v ⟨Nat.le_of_ble_eq_true rfl, Nat.le_of_ble_eq_true rfl⟩) (sR noP (hK.sub (tys' := []) [] rfl)) rfl rfl hl.1 rfl (lv_room (Nat.le_of_ble_eq_true rfl)) dX12_findLawful_95 ⟨Nat.le_of_ble_eq_true rfl, Nat.le_of_ble_eq_true rfl⟩) (fun r17 hr17 => ?_)
  obtain ⟨hr17, xr17_0⟩ := hr17
  have xr17_0 : (r17 : Int64).toInt = gN (w12 : Int64).toInt (w16 : Int64).toInt := xr17_0
  have g9_4 := gdi (x := (w12 : Int64).toInt) (y := (w16 : Int64).toInt) (by omega) (by omega)
  rw [← xr17_0] at g9_4
  have gg4 := xr17_0
  obtain ⟨gp4, ga4, gb4⟩ := g9_4
  refine lv_lstore (lv' := [(21, .long r17), (19, .long w16), (9, .long w15), (17, .long r14), (11, .long w13), (13, .long w12), (15, .long r11), (7, .long r1), (0, .ref h), (1, .int a), (2, .long b), (4, .long d), (6, .int k)]) hx hb dX12_findLawful_98 hl (by decide) rfl (fun ls hl => ?_)
  refine lv_lload hx hb dX12_findLawful_100 (lv_at hl 5 rfl) ?_
  refine lv_lload hx hb dX12_findLawful_102 (lv_at hl 0 rfl) ?_
  have zw18 : (r17 : Int64).toInt ≠ 0 := by omega
  refine lv_ldiv hx hb dX12_findLawful_104 (l_nz rfl zw18) ?_
  refine lv_topl (fun w18 ew18 => ?_)
  have m9_4a := l_divp ew18 (rfl : (w12 : Int64).toInt = _) (rfl : _ = _) (by omega) (by omega)
  have n9_4a : 1 ≤ (w18 : Int64).toInt ∧ (w18 : Int64).toInt ≤ (w12 : Int64).toInt := by rw [m9_4a]; exact ga4
  refine lv_lstore (lv' := [(13, .long w18), (21, .long r17), (19, .long w16), (9, .long w15), (17, .long r14), (11, .long w13), (15, .long r11), (7, .long r1), (0, .ref h), (1, .int a), (2, .long b), (4, .long d), (6, .int k)]) hx hb dX12_findLawful_105 hl (by decide) rfl (fun ls hl => ?_)
  refine lv_lload hx hb dX12_findLawful_107 (lv_at hl 2 rfl) ?_
  refine lv_lload hx hb dX12_findLawful_109 (lv_at hl 1 rfl) ?_
  have zw19 : (r17 : Int64).toInt ≠ 0 := by omega
  refine lv_ldiv hx hb dX12_findLawful_111 (l_nz rfl zw19) ?_
  refine lv_topl (fun w19 ew19 => ?_)
  have m9_4b := l_divp ew19 (rfl : (w16 : Int64).toInt = _) (rfl : _ = _) (by omega) (by omega)
  have n9_4b : 1 ≤ (w19 : Int64).toInt ∧ (w19 : Int64).toInt ≤ (w16 : Int64).toInt := by rw [m9_4b]; exact gb4
  refine lv_lstore (lv' := [(19, .long w19), (13, .long w18), (21, .long r17), (9, .long w15), (17, .long r14), (11, .long w13), (15, .long r11), (7, .long r1), (0, .ref h), (1, .int a), (2, .long b), (4, .long d), (6, .int k)]) hx hb dX12_findLawful_112 hl (by decide) rfl (fun ls hl => ?_)
  refine lv_aload_n hx hb dX12_findLawful_114 rfl (lv_at hl 8 rfl) ?_
  refine lv_lload hx hb dX12_findLawful_115 (lv_at hl 3 rfl) ?_
  refine lv_lload hx hb dX12_findLawful_117 (lv_at hl 1 rfl) ?_
  refine lv_lmul hx hb dX12_findLawful_119 ?_
  refine lv_topl (fun w20 ew20 => ?_)
  have tw20 := l_mulb (a1 := 1) (b1 := 28794240288) (a2 := 1) (b2 := 129998700) ew20 (rfl : (w15 : Int64).toInt = _) (rfl : (w18 : Int64).toInt = _) (by omega) (by omega) (by omega) (by omega) (by decide) (by decide) (by decide)
  have : 1 ≤ w20.toInt ∧ w20.toInt ≤ 3743213804927625600 := ⟨by omega, by omega⟩
  refine pM_12_46 (v := w20) hx hb ht hown hK hP hD hS m_1185 dX12_findLawful_120 (fun H locs hP hD hS => ?_)
  refine lv_aload_n hx hb dX12_findLawful_123 rfl (lv_at hl 8 rfl) ?_
  refine lv_lload hx hb dX12_findLawful_124 (lv_at hl 5 rfl) ?_
  refine lv_lload hx hb dX12_findLawful_126 (lv_at hl 0 rfl) ?_
  refine lv_lmul hx hb dX12_findLawful_128 ?_
  refine lv_topl (fun w21 ew21 => ?_)
  have tw21 := l_mulb (a1 := 1) (b1 := 28794240288) (a2 := 1) (b2 := 1000) ew21 (rfl : (w13 : Int64).toInt = _) (rfl : (w19 : Int64).toInt = _) (by omega) (by omega) (by omega) (by omega) (by decide) (by decide) (by decide)
  have : 1 ≤ w21.toInt ∧ w21.toInt ≤ 28794240288000 := ⟨by omega, by omega⟩
  refine pM_12_47 (v := w21) hx hb ht hown hK hP hD hS m_1186 dX12_findLawful_129 (fun H locs hP hD hS => ?_)
  have hP9 : va_P (dC, dI) classes (WM h g ca (u2 iv 12 41 n8) (u2 (u2 lv 12 46 w20) 12 47 w21) (u2 (u2 fa 12 39 n6) 12 40 n7) la) H := hP
  have hD9 : va_D A (WM h g ca (u2 iv 12 41 n8) (u2 (u2 lv 12 46 w20) 12 47 w21) (u2 (u2 fa 12 39 n6) 12 40 n7) la) := hD
  exact W.vret hx hb hr (fun t ht9 hW => ⟨⟨((u2 iv 12 41 n8), (u2 (u2 lv 12 46 w20) 12 47 w21), (u2 (u2 fa 12 39 n6) 12 40 n7), la), rfl, ⟨n6, n7, n8, w20, w21, hn6, hn7, (show inb (0, 8) n8 from ⟨by omega, by omega⟩), (show ∃ wt : Int, FoY (iv 12 23).toInt (fa 12 24) (fa 12 25) (fa 12 26) (fa 12 27) (fa 12 28) 0 (k).toInt wt ∧ 0 ≤ wt ∧ wt ≤ 300 ∧ LwY (b).toInt (d).toInt (((fa 12 2) ((a).toInt).toNat).toInt * (1000 + wt)) (w20 : Int64).toInt (w21 : Int64).toInt from (by
        have hr9 := red4i (up := b.toInt) (dn := d.toInt) (y := (w10 : Int64).toInt) (u := (w2 : Int64).toInt) (d := (w3 : Int64).toInt) (y1 := (w12 : Int64).toInt) (d1 := (w13 : Int64).toInt) (u1 := (w15 : Int64).toInt) (t := (w16 : Int64).toInt) (y2 := (w18 : Int64).toInt) (t1 := (w19 : Int64).toInt) (by omega) (by omega) (by omega) (by rw [m9_1a, gg1]) (by rw [m9_1b, gg1]) (by rw [m9_2a, gg2]) (by rw [m9_2b, gg2]) (by rw [m9_3a, gg3]; rfl) (by rw [m9_3b, gg3]; rfl) (by rw [m9_4a, gg4]) (by rw [m9_4b, gg4])
        have hp1 := mul_b (x := (w15 : Int64).toInt) (y := (w18 : Int64).toInt) (a1 := 1) (a2 := 1) (b1 := 28794240288) (b2 := 129998700) (by omega) (by omega) (by omega) (by omega) (by decide) (by decide)
        have hp2 := mul_b (x := (w13 : Int64).toInt) (y := (w19 : Int64).toInt) (a1 := 1) (a2 := 1) (b1 := 28794240288) (b2 := 1000) (by omega) (by omega) (by omega) (by omega) (by decide) (by decide)
        have hp3 : (w20 : Int64).toInt = (w15 : Int64).toInt * (w18 : Int64).toInt := l_mul ew20 rfl rfl (by omega) (by omega)
        have hp4 : (w21 : Int64).toInt = (w13 : Int64).toInt * (w19 : Int64).toInt := l_mul ew21 rfl rfl (by omega) (by omega)
        rw [← hp3, ← hp4, hy1, hl9] at hr9
        exact ⟨_, xr5_0, hf9.1, hf9.2, hr9⟩)), rfl⟩, by rw [ht9]; exact hP9, hD9⟩, hS.F ht9⟩) hS.2.2 dX12_findLawful_132
/-! ===== la8 ===== -/
set_option maxHeartbeats 4000000 in
set_option maxRecDepth 100000 in
/-- X12_lawful -/
theorem c_X12_lawful_w (l : Launch) (dC : Nat → ClassId) (dI : Nat → Nat → Nat) (sz : Nat) (h : Nat) (g : Nat → Nat → Nat) (ca : Nat → Nat → ClassId) (iv : Nat → Nat → Int32) (lv : Nat → Nat → Int64) (fa : Nat → Nat → Nat → Int32) (la : Nat → Nat → Nat → Int64) (hI : IX iv fa) (a : Int32) (b : Int32) (d : Int32) (hJC : JCf (iv 12 23).toInt (fa 12 25) (fa 12 26) (fa 12 27) (fa 12 28)) (hJR : JRf (iv 12 3).toInt (fa 12 7)) (hJO : (iv 12 20).toInt = -1 ∧ (iv 12 21).toInt = -1 ∧ (iv 12 22).toInt = -1) (hJK : ∀ k j : Nat, (k : Int) < (iv 12 23).toInt → 12 * k ≤ j → (j : Int) < 12 * (k : Int) + (fa 12 25 k).toInt → (fa 12 26 j).toInt = 3 → 0 ≤ (fa 12 28 j).toInt ∧ (fa 12 28 j).toInt < (k : Int)) (hJD : ∀ s : Nat, (s : Int) < (iv 12 3).toInt → (100 ≤ (fa 12 7 s).toInt ∧ (fa 12 7 s).toInt ≤ 9999) ∧ (50 ≤ (fa 12 8 s).toInt ∧ (fa 12 8 s).toInt ≤ 9999)) (hJN : JNf (iv 12 3).toInt (fa 12 4) (fa 12 5)) (hJH : ∀ a d v : Int, 0 ≤ a → a ≤ 5 → FoY (iv 12 23).toInt (fa 12 24) (fa 12 25) (fa 12 26) (fa 12 27) (fa 12 28) a d v → fLo a ≤ v ∧ v ≤ fHi a) (hJI : ∀ j : Nat, (j : Int) < (iv 12 1).toInt → 1 ≤ (fa 12 2 j).toInt ∧ (fa 12 2 j).toInt ≤ 99999) : Met l yX12_lawful (wc yX12_lawful cX12_lawful 4 (some .long)) ({ frames := 3, cells := 0, slots := 0, locals := 92 } : Room) (pW (dC, dI) classes (WM h g ca iv lv fa la) (TM ca) sz [.ref h, .int a, .int b, .int d]) (va_Ql (fun r (u : SS) => ∃ (na_12_39 : Nat → Int32) (na_12_40 : Nat → Int32) (nb_12_42 : Nat → Int64) (nb_12_43 : Nat → Int64) (ni_12_19 : Int32) (ni_12_41 : Int32) (nl_12_17 : Int64) (nl_12_18 : Int64) (nl_12_44 : Int64) (nl_12_45 : Int64) (nl_12_46 : Int64) (nl_12_47 : Int64), (∀ j, inb (bA 12 39 j) (na_12_39 j)) ∧ (∀ j, inb (bA 12 40 j) (na_12_40 j)) ∧ inb (bI 12 41) ni_12_41 ∧ (((r.toInt = -100001 ∧ ¬ (0 ≤ a.toInt ∧ a.toInt < (iv 12 1).toInt)) ∨ (r.toInt = -100002 ∧ (0 ≤ a.toInt ∧ a.toInt < (iv 12 1).toInt) ∧ ¬ (0 ≤ b.toInt ∧ b.toInt ≤ (iv 12 0).toInt ∧ 0 ≤ d.toInt ∧ d.toInt ≤ 1)) ∨ ((0 ≤ a.toInt ∧ a.toInt < (iv 12 1).toInt) ∧ (0 ≤ b.toInt ∧ b.toInt ≤ (iv 12 0).toInt ∧ 0 ≤ d.toInt ∧ d.toInt ≤ 1) ∧ ∃ (D R : Nat → Int64) (up dn ro : Int), LwT (fun q v => FoY (iv 12 23).toInt (fa 12 24) (fa 12 25) (fa 12 26) (fa 12 27) (fa 12 28) q b.toInt v) (fa 12 4) (fa 12 5) (fa 12 11) (fa 12 12) (fa 12 7) (fa 12 8) a.toInt b.toInt ((iv 12 3).toInt).toNat D R up dn ro ∧ ((ro ≠ 1 ∧ r.toInt = -100003) ∨ (ro = 1 ∧ ∃ wt LU LD : Int, FoY (iv 12 23).toInt (fa 12 24) (fa 12 25) (fa 12 26) (fa 12 27) (fa 12 28) 0 b.toInt wt ∧ 0 ≤ wt ∧ LwY up dn (((fa 12 2) (a.toInt).toNat).toInt * (1000 + wt)) LU LD ∧ ltY LU LD d.toInt r.toInt))))) ∧ (True) ∧ u = ((u2 (u2 iv 12 19 ni_12_19) 12 41 ni_12_41), (u2 (u2 (u2 (u2 (u2 (u2 lv 12 17 nl_12_17) 12 18 nl_12_18) 12 44 nl_12_44) 12 45 nl_12_45) 12 46 nl_12_46) 12 47 nl_12_47), (u2 (u2 fa 12 39 na_12_39) 12 40 na_12_40), (u2 (u2 la 12 42 nb_12_42) 12 43 nb_12_43))) (bM (dC, dI) h g ca (va_A (WM h g ca iv lv fa la) sz)) (va_A (WM h g ca iv lv fa la) sz)) 0 0 (va_A (WM h g ca iv lv fa la) sz) := by
  refine Met.ofW (cc := cX12_lawful) (maxL := 4) (ret := (some .long)) (by decide) rfl ?_
  intro p e s m args below meth c s₁ B hml hv
  obtain ⟨rfl, hsz, hP, hK, hD0⟩ := hv
  have hx := B.exec
  have hb := B.bytes
  have hr := B.returns
  have ht := tb_tl (atoms_spec (ws := wc yX12_lawful cX12_lawful 4 (some .long)) B.pre)
  have hown : s.vm.findClass RX12 = some m.cls := findClass_of_methodNamed B.named
  have hlocks := B.notSynchronized
  subst hsz
  have hD := hD0.self (sz := s.heap.size)
  generalize hAe : va_A (WM h g ca iv lv fa la) s.heap.size = A at hD ⊢
  have hA : ∀ q : Nat, s.heap.size ≤ q → A q := fun q h => by rw [← hAe]; exact Or.inr h
  have hS : va_S A s.heap s.heap [] := va_S.rf
  have hl := lv_entry [.ref h, .int a, .int b, .int d] (n := 4) (Nat.le_of_ble_eq_true rfl)
  rw [lg_entry_eq]
  generalize (lg_sl [.ref h, .int a, .int b, .int d] ++ List.replicate (4 - (lg_sl [.ref h, .int a, .int b, .int d]).length) Slot.unset).toArray = ls at hl ⊢
  have hl : lv_has ls 4 [(0, .ref h), (1, .int a), (2, .int b), (3, .int d)] := hl
  refine lv_aload_n hx hb dX12_lawful_0 rfl (lv_at hl 0 rfl) ?_
  refine lv_iload_n hx hb dX12_lawful_1 rfl (lv_at hl 1 rfl) ?_
  refine vp_callSi (W.runV (As := [.int a]) (rest := []) ⟨hx, hb, hml, hown, ht⟩ (c_X12_noBale l dC dI h g ca iv lv fa la hI a) (kV 1 ht m_1385 m_1387 m_42 m_89 m_1388 rfl rfl hd_X12_noBale_v ⟨Nat.le_of_ble_eq_true rfl, Nat.le_of_ble_eq_true rfl⟩) (vR hP hK (rM_12 hK hP)) rfl rfl hl.1 rfl (lv_room (Nat.le_of_ble_eq_true rfl)) dX12_lawful_2 ⟨Nat.le_of_ble_eq_true rfl, Nat.le_of_ble_eq_true rfl⟩) (fun r1 hr1 => ?_)
  rcases hr1 with ⟨rfl, fr1⟩ | ⟨rfl, fr1⟩
  · skip
    have i_12_1 : 0 ≤ (iv 12 1).toInt ∧ (iv 12 1).toInt ≤ 10 := hI.1 12 1
    have fr1 : ¬ (0 ≤ (a : Int32).toInt ∧ (a : Int32).toInt < ((iv 12 1) : Int32).toInt) := fr1
    refine lv_if_eq (tgt := 12) hx hb dX12_lawful_5 (by decide) (fun c2 => ?_) (fun c2 => ?_)
    · exact absurd c2 (by decide)
    · skip
      refine lv_ldc2 hx hb hown (ht _ m_1560) dX12_lawful_8 ?_
      have : ((-100001) : Int64).toInt = (-100001) := (by decide)
      have hP9 : va_P (dC, dI) classes (WM h g ca (u2 (u2 iv 12 19 (iv 12 19)) 12 41 (iv 12 41)) (u2 (u2 (u2 (u2 (u2 (u2 lv 12 17 (lv 12 17)) 12 18 (lv 12 18)) 12 44 (lv 12 44)) 12 45 (lv 12 45)) 12 46 (lv 12 46)) 12 47 (lv 12 47)) (u2 (u2 fa 12 39 (fa 12 39)) 12 40 (fa 12 40)) (u2 (u2 la 12 42 (la 12 42)) 12 43 (la 12 43))) s.heap := hP
      have hD9 : va_D A (WM h g ca (u2 (u2 iv 12 19 (iv 12 19)) 12 41 (iv 12 41)) (u2 (u2 (u2 (u2 (u2 (u2 lv 12 17 (lv 12 17)) 12 18 (lv 12 18)) 12 44 (lv 12 44)) 12 45 (lv 12 45)) 12 46 (lv 12 46)) 12 47 (lv 12 47)) (u2 (u2 fa 12 39 (fa 12 39)) 12 40 (fa 12 40)) (u2 (u2 la 12 42 (la 12 42)) 12 43 (la 12 43))) := hD
      exact W.lret (v := (-100001)) hx hb hr (fun t ht9 hW => ⟨⟨(-100001), ((u2 (u2 iv 12 19 (iv 12 19)) 12 41 (iv 12 41)), (u2 (u2 (u2 (u2 (u2 (u2 lv 12 17 (lv 12 17)) 12 18 (lv 12 18)) 12 44 (lv 12 44)) 12 45 (lv 12 45)) 12 46 (lv 12 46)) 12 47 (lv 12 47)), (u2 (u2 fa 12 39 (fa 12 39)) 12 40 (fa 12 40)), (u2 (u2 la 12 42 (la 12 42)) 12 43 (la 12 43))), rfl, ⟨(fa 12 39), (fa 12 40), (la 12 42), (la 12 43), (iv 12 19), (iv 12 41), (lv 12 17), (lv 12 18), (lv 12 44), (lv 12 45), (lv 12 46), (lv 12 47), (hI.2 12 39), (hI.2 12 40), (hI.1 12 41), (show ((((-100001) : Int64).toInt = -100001 ∧ ¬ (0 ≤ (a).toInt ∧ (a).toInt < (iv 12 1).toInt)) ∨ (((-100001) : Int64).toInt = -100002 ∧ (0 ≤ (a).toInt ∧ (a).toInt < (iv 12 1).toInt) ∧ ¬ (0 ≤ (b).toInt ∧ (b).toInt ≤ (iv 12 0).toInt ∧ 0 ≤ (d).toInt ∧ (d).toInt ≤ 1)) ∨ ((0 ≤ (a).toInt ∧ (a).toInt < (iv 12 1).toInt) ∧ (0 ≤ (b).toInt ∧ (b).toInt ≤ (iv 12 0).toInt ∧ 0 ≤ (d).toInt ∧ (d).toInt ≤ 1) ∧ ∃ (D R : Nat → Int64) (up dn ro : Int), LwT (fun q v => FoY (iv 12 23).toInt (fa 12 24) (fa 12 25) (fa 12 26) (fa 12 27) (fa 12 28) q (b).toInt v) (fa 12 4) (fa 12 5) (fa 12 11) (fa 12 12) (fa 12 7) (fa 12 8) (a).toInt (b).toInt ((iv 12 3).toInt).toNat D R up dn ro ∧ ((ro ≠ 1 ∧ ((-100001) : Int64).toInt = -100003) ∨ (ro = 1 ∧ ∃ wt LU LD : Int, FoY (iv 12 23).toInt (fa 12 24) (fa 12 25) (fa 12 26) (fa 12 27) (fa 12 28) 0 (b).toInt wt ∧ 0 ≤ wt ∧ LwY up dn (((fa 12 2) ((a).toInt).toNat).toInt * (1000 + wt)) LU LD ∧ ltY LU LD (d).toInt ((-100001) : Int64).toInt)))) from Or.inl ⟨by omega, by omega⟩), trivial, rfl⟩, by rw [ht9]; exact hP9, hD9⟩, hS.F ht9⟩) hS.2.2 dX12_lawful_11
  · skip
    have i_12_1 : 0 ≤ (iv 12 1).toInt ∧ (iv 12 1).toInt ≤ 10 := hI.1 12 1
    have fr1 : (0 ≤ (a : Int32).toInt ∧ (a : Int32).toInt < ((iv 12 1) : Int32).toInt) := Decidable.not_not.mp fr1
    refine lv_if_eq (tgt := 12) hx hb dX12_lawful_5 (by decide) (fun c3 => ?_) (fun c3 => ?_)
    · skip
      refine lv_aload_n hx hb dX12_lawful_12 rfl (lv_at hl 0 rfl) ?_
      refine lv_iload_n hx hb dX12_lawful_13 rfl (lv_at hl 2 rfl) ?_
      refine vp_callSi (W.runV (As := [.int b]) (rest := []) ⟨hx, hb, hml, hown, ht⟩ (c_X12_isPast l dC dI h g ca iv lv fa la hI b) (kV 1 ht m_1528 m_1530 m_57 m_89 m_1531 rfl rfl hd_X12_isPast_v ⟨Nat.le_of_ble_eq_true rfl, Nat.le_of_ble_eq_true rfl⟩) (vR hP hK (rM_12 hK hP)) rfl rfl hl.1 rfl (lv_room (Nat.le_of_ble_eq_true rfl)) dX12_lawful_14 ⟨Nat.le_of_ble_eq_true rfl, Nat.le_of_ble_eq_true rfl⟩) (fun r4 hr4 => ?_)
      rcases hr4 with ⟨rfl, fr4⟩ | ⟨rfl, fr4⟩
      · skip
        refine lv_if_eq (tgt := 30) hx hb dX12_lawful_17 (by decide) (fun c5 => ?_) (fun c5 => ?_)
        · exact absurd c5 (by decide)
        · skip
          refine lv_iload_n hx hb dX12_lawful_20 rfl (lv_at hl 3 rfl) ?_
          refine lv_i2l (v := (d.toInt64)) hx hb dX12_lawful_21 rfl ?_
          refine lv_lconst (v := 0) hx hb dX12_lawful_22 (by decide) ?_
          refine lv_lconst (v := 1) hx hb dX12_lawful_23 (by decide) ?_
          refine vp_callSi (W.runS (As := [.long (d.toInt64), .long 0, .long 1]) (rest := []) ⟨hx, hb, hml, hown, ht⟩ (c_X12_in l dC dI (d.toInt64) 0 1 (d.toInt) (0) (1) ((Int32.toInt_toInt64 d).trans rfl) (by decide : (0 : Int64).toInt = 0) (by decide : (1 : Int64).toInt = 1)) (kS 3 ht m_1370 m_1371 m_89 m_1372 rfl rfl hd_X12_in_v ⟨Nat.le_of_ble_eq_true rfl, Nat.le_of_ble_eq_true rfl⟩) (sR noP (hK.sub (tys' := []) [] rfl)) rfl rfl hl.1 rfl (lv_room (Nat.le_of_ble_eq_true rfl)) dX12_lawful_24 ⟨Nat.le_of_ble_eq_true rfl, Nat.le_of_ble_eq_true rfl⟩) (fun r6 hr6 => ?_)
          rcases hr6 with ⟨rfl, fr6⟩ | ⟨rfl, fr6⟩
          · skip
            refine lv_if_ne (tgt := 34) hx hb dX12_lawful_27 (by decide) (fun c7 => ?_) (fun c7 => ?_)
            · skip
              refine lv_aload_n hx hb dX12_lawful_34 rfl (lv_at hl 0 rfl) ?_
              refine lv_iload_n hx hb dX12_lawful_35 rfl (lv_at hl 1 rfl) ?_
              refine lv_iload_n hx hb dX12_lawful_36 rfl (lv_at hl 2 rfl) ?_
              have i_12_23 : 0 ≤ (iv 12 23).toInt ∧ (iv 12 23).toInt ≤ 8 := hI.1 12 23
              have i_12_3 : 0 ≤ (iv 12 3).toInt ∧ (iv 12 3).toInt ≤ 60 := hI.1 12 3
              have hFc := free_all hD hS hA
              refine va_calli (va_runV (As := [.int a, .int b]) (rest := []) ⟨hx, hb, hml, hown, ht⟩ (c_X12_stateOf_w l dC dI s.heap.size h g ca iv lv fa la hI a b hJC hJR hJO hJK) (kV 2 ht m_1532 m_1534 m_58 m_89 m_1535 rfl rfl hd_X12_stateOf_v ⟨Nat.le_of_ble_eq_true rfl, Nat.le_of_ble_eq_true rfl⟩) (vW hP hK hD (rM_12 hK hP)) rfl rfl hl.1 rfl (lv_room (Nat.le_of_ble_eq_true rfl)) dX12_lawful_37 ⟨Nat.le_of_ble_eq_true rfl, Nat.le_of_ble_eq_true rfl⟩) hS (fun q _ h => hFc q h) hFc (fun r8 u t H1 locs ht9 hvm hr8 hB hz1 hk1 hS => ?_)
              obtain ⟨n9, n10, n11, n12, n13, n14, n15, n16, n17, n18, hn9, hn10, hn14, xr8_0, hr8, rfl⟩ := hr8
              have hn14 : 0 ≤ n14.toInt ∧ n14.toInt ≤ 8 := hn14
              obtain ⟨hP, hD⟩ := hB
              rw [ht9] at hP
              generalize H1 = H at hP hS ⊢
              have hP : va_P (dC, dI) classes (WM h g ca (u2 (u2 iv 12 19 n13) 12 41 n14) (u2 (u2 (u2 (u2 lv 12 17 n15) 12 18 n16) 12 44 n17) 12 45 n18) (u2 (u2 fa 12 39 n9) 12 40 n10) (u2 (u2 la 12 42 n11) 12 43 n12)) H := hP
              have hD : va_D A (WM h g ca (u2 (u2 iv 12 19 n13) 12 41 n14) (u2 (u2 (u2 (u2 lv 12 17 n15) 12 18 n16) 12 44 n17) 12 45 n18) (u2 (u2 fa 12 39 n9) 12 40 n10) (u2 (u2 la 12 42 n11) 12 43 n12)) := (show va_D _ (WM h g ca (u2 (u2 iv 12 19 n13) 12 41 n14) (u2 (u2 (u2 (u2 lv 12 17 n15) 12 18 n16) 12 44 n17) 12 45 n18) (u2 (u2 fa 12 39 n9) 12 40 n10) (u2 (u2 la 12 42 n11) 12 43 n12)) from hD).weaken (fun _ _ _ h => hFc _ h)
              have xr8_0 : LwT (fun q v => FoY ((iv 12 23) : Int32).toInt (fa 12 24) (fa 12 25) (fa 12 26) (fa 12 27) (fa 12 28) q (b : Int32).toInt v) (fa 12 4) (fa 12 5) (fa 12 11) (fa 12 12) (fa 12 7) (fa 12 8) (a : Int32).toInt (b : Int32).toInt (((iv 12 3) : Int32).toInt).toNat n11 n12 (n17 : Int64).toInt (n18 : Int64).toInt (r8 : Int32).toInt := xr8_0
              refine lv_iconst (v := 1) hx hb dX12_lawful_40 (by decide) ?_
              refine lv_icmp_eq (tgt := 48) hx hb dX12_lawful_41 (by decide) (fun c19 => ?_) (fun c19 => ?_)
              · have fc19 := z_eq (rfl : (r8).toInt = _) (by decide : (1 : Int32).toInt = 1) c19
                have hb9 := LwT_b (F := (fun q v => FoY (iv 12 23).toInt (fa 12 24) (fa 12 25) (fa 12 26) (fa 12 27) (fa 12 28) q (b).toInt v)) (fun v hv => f1_of (hJH 1 _ v (by decide) (by decide) hv)) (show (iv 12 3).toInt.toNat ≤ 60 from by have q9 : 0 ≤ (iv 12 3).toInt ∧ (iv 12 3).toInt ≤ 60 := hI.1 12 3; omega) (fun s hs => hJD s (by omega)) (hJN a) xr8_0 (by omega)
                obtain ⟨hb1, hb2, hb3, hb4⟩ := hb9
                refine lv_aload_n hx hb dX12_lawful_48 rfl (lv_at hl 0 rfl) ?_
                refine lv_iload_n hx hb dX12_lawful_49 rfl (lv_at hl 1 rfl) ?_
                refine lv_aload_n hx hb dX12_lawful_50 rfl (lv_at hl 0 rfl) ?_
                refine gM_12_44 hx hb ht hown hK hP m_1183 (v := n17) rfl dX12_lawful_51 ?_
                refine lv_aload_n hx hb dX12_lawful_54 rfl (lv_at hl 0 rfl) ?_
                refine gM_12_45 hx hb ht hown hK hP m_1184 (v := n18) rfl dX12_lawful_55 ?_
                refine lv_iload_n hx hb dX12_lawful_58 rfl (lv_at hl 2 rfl) ?_
                have hFc := free_all hD hS hA
                refine va_callv (va_runV (As := [.int a, .long n17, .long n18, .int b]) (rest := []) ⟨hx, hb, hml, hown, ht⟩ (c_X12_findLawful_w l dC dI H.size h g ca (u2 (u2 iv 12 19 n13) 12 41 n14) (u2 (u2 (u2 (u2 lv 12 17 n15) 12 18 n16) 12 44 n17) 12 45 n18) (u2 (u2 fa 12 39 n9) 12 40 n10) (u2 (u2 la 12 42 n11) 12 43 n12) (IX_a (c := 12) (k := 40) (IX_a (c := 12) (k := 39) (IX_i (c := 12) (k := 41) (IX_i (c := 12) (k := 19) hI (full_i _)) (show inb (0, 8) n14 from ⟨by omega, by omega⟩)) hn9) hn10) a n17 n18 b ⟨by omega, by omega⟩ ⟨by omega, by omega⟩ ⟨by omega, by omega⟩ (show (a : Int32).toInt < ((iv 12 1) : Int32).toInt from by omega) hJC hJK hJH hJI) (kV 4 ht m_1563 m_1565 m_63 m_89 m_1566 rfl rfl hd_X12_findLawful_v ⟨Nat.le_of_ble_eq_true rfl, Nat.le_of_ble_eq_true rfl⟩) (vW hP hK hD (rM_12 hK hP)) rfl rfl hl.1 rfl (lv_room (Nat.le_of_ble_eq_true rfl)) dX12_lawful_59 ⟨Nat.le_of_ble_eq_true rfl, Nat.le_of_ble_eq_true rfl⟩) hS (fun q _ h => hFc q h) hFc (fun u t H1 locs ht9 hvm hr20 hB hz1 hk1 hS => ?_)
                obtain ⟨n21, n22, n23, n24, n25, hn21, hn22, hn23, xr20_0, rfl⟩ := hr20
                have hn23 : 0 ≤ n23.toInt ∧ n23.toInt ≤ 8 := hn23
                obtain ⟨hP, hD⟩ := hB
                rw [ht9] at hP
                generalize H1 = H at hP hS ⊢
                have hP : va_P (dC, dI) classes (WM h g ca (u2 (u2 iv 12 19 n13) 12 41 n23) (u2 (u2 (u2 (u2 (u2 (u2 lv 12 17 n15) 12 18 n16) 12 44 n17) 12 45 n18) 12 46 n24) 12 47 n25) (u2 (u2 fa 12 39 n21) 12 40 n22) (u2 (u2 la 12 42 n11) 12 43 n12)) H := hP
                have hD : va_D A (WM h g ca (u2 (u2 iv 12 19 n13) 12 41 n23) (u2 (u2 (u2 (u2 (u2 (u2 lv 12 17 n15) 12 18 n16) 12 44 n17) 12 45 n18) 12 46 n24) 12 47 n25) (u2 (u2 fa 12 39 n21) 12 40 n22) (u2 (u2 la 12 42 n11) 12 43 n12)) := (show va_D _ (WM h g ca (u2 (u2 iv 12 19 n13) 12 41 n23) (u2 (u2 (u2 (u2 (u2 (u2 lv 12 17 n15) 12 18 n16) 12 44 n17) 12 45 n18) 12 46 n24) 12 47 n25) (u2 (u2 fa 12 39 n21) 12 40 n22) (u2 (u2 la 12 42 n11) 12 43 n12)) from hD).weaken (fun _ _ _ h => hFc _ h)
                have xr20_0 : ∃ wt : Int, FoY ((iv 12 23) : Int32).toInt (fa 12 24) (fa 12 25) (fa 12 26) (fa 12 27) (fa 12 28) 0 (b : Int32).toInt wt ∧ 0 ≤ wt ∧ wt ≤ 300 ∧ LwY (n17 : Int64).toInt (n18 : Int64).toInt (((fa 12 2) ((a : Int32).toInt).toNat).toInt * (1000 + wt)) (n24 : Int64).toInt (n25 : Int64).toInt := xr20_0
                refine lv_iload_n hx hb dX12_lawful_62 rfl (lv_at hl 3 rfl) ?_
                refine lv_if_ne (tgt := 73) hx hb dX12_lawful_63 (by decide) (fun c26 => ?_) (fun c26 => ?_)
                · have fc26 := z_ne (rfl : (d).toInt = _) (by decide : (0 : Int32).toInt = 0) c26
                  refine lv_aload_n hx hb dX12_lawful_73 rfl (lv_at hl 0 rfl) ?_
                  refine gM_12_47 hx hb ht hown hK hP m_1186 (v := n25) rfl dX12_lawful_74 ?_
                  have hP9 : va_P (dC, dI) classes (WM h g ca (u2 (u2 iv 12 19 n13) 12 41 n23) (u2 (u2 (u2 (u2 (u2 (u2 lv 12 17 n15) 12 18 n16) 12 44 n17) 12 45 n18) 12 46 n24) 12 47 n25) (u2 (u2 fa 12 39 n21) 12 40 n22) (u2 (u2 la 12 42 n11) 12 43 n12)) H := hP
                  have hD9 : va_D A (WM h g ca (u2 (u2 iv 12 19 n13) 12 41 n23) (u2 (u2 (u2 (u2 (u2 (u2 lv 12 17 n15) 12 18 n16) 12 44 n17) 12 45 n18) 12 46 n24) 12 47 n25) (u2 (u2 fa 12 39 n21) 12 40 n22) (u2 (u2 la 12 42 n11) 12 43 n12)) := hD
                  exact W.lret (v := n25) hx hb hr (fun t ht9 hW => ⟨⟨n25, ((u2 (u2 iv 12 19 n13) 12 41 n23), (u2 (u2 (u2 (u2 (u2 (u2 lv 12 17 n15) 12 18 n16) 12 44 n17) 12 45 n18) 12 46 n24) 12 47 n25), (u2 (u2 fa 12 39 n21) 12 40 n22), (u2 (u2 la 12 42 n11) 12 43 n12)), rfl, ⟨n21, n22, n11, n12, n13, n23, n15, n16, n17, n18, n24, n25, hn21, hn22, (show inb (0, 8) n23 from ⟨by omega, by omega⟩), (show (((n25 : Int64).toInt = -100001 ∧ ¬ (0 ≤ (a).toInt ∧ (a).toInt < (iv 12 1).toInt)) ∨ ((n25 : Int64).toInt = -100002 ∧ (0 ≤ (a).toInt ∧ (a).toInt < (iv 12 1).toInt) ∧ ¬ (0 ≤ (b).toInt ∧ (b).toInt ≤ (iv 12 0).toInt ∧ 0 ≤ (d).toInt ∧ (d).toInt ≤ 1)) ∨ ((0 ≤ (a).toInt ∧ (a).toInt < (iv 12 1).toInt) ∧ (0 ≤ (b).toInt ∧ (b).toInt ≤ (iv 12 0).toInt ∧ 0 ≤ (d).toInt ∧ (d).toInt ≤ 1) ∧ ∃ (D R : Nat → Int64) (up dn ro : Int), LwT (fun q v => FoY (iv 12 23).toInt (fa 12 24) (fa 12 25) (fa 12 26) (fa 12 27) (fa 12 28) q (b).toInt v) (fa 12 4) (fa 12 5) (fa 12 11) (fa 12 12) (fa 12 7) (fa 12 8) (a).toInt (b).toInt ((iv 12 3).toInt).toNat D R up dn ro ∧ ((ro ≠ 1 ∧ (n25 : Int64).toInt = -100003) ∨ (ro = 1 ∧ ∃ wt LU LD : Int, FoY (iv 12 23).toInt (fa 12 24) (fa 12 25) (fa 12 26) (fa 12 27) (fa 12 28) 0 (b).toInt wt ∧ 0 ≤ wt ∧ LwY up dn (((fa 12 2) ((a).toInt).toNat).toInt * (1000 + wt)) LU LD ∧ ltY LU LD (d).toInt (n25 : Int64).toInt)))) from (by obtain ⟨wt9, k1, k2, k3, k4⟩ := xr20_0; exact Or.inr (Or.inr ⟨⟨by omega, by omega⟩, ⟨by omega, by omega, by omega, by omega⟩, ⟨n11, n12, (n17 : Int64).toInt, (n18 : Int64).toInt, _, xr8_0, Or.inr ⟨by omega, wt9, _, _, k1, k2, k4, (by unfold ltY; omega)⟩⟩⟩))), trivial, rfl⟩, by rw [ht9]; exact hP9, hD9⟩, hS.F ht9⟩) hS.2.2 dX12_lawful_77
                · have fc26 := z_eq (rfl : (d).toInt = _) (by decide : (0 : Int32).toInt = 0) c26
                  refine lv_aload_n hx hb dX12_lawful_66 rfl (lv_at hl 0 rfl) ?_
                  refine gM_12_46 hx hb ht hown hK hP m_1185 (v := n24) rfl dX12_lawful_67 ?_
                  refine lv_goto (tgt := 77) hx hb dX12_lawful_70 (by decide) ?_
                  have hP9 : va_P (dC, dI) classes (WM h g ca (u2 (u2 iv 12 19 n13) 12 41 n23) (u2 (u2 (u2 (u2 (u2 (u2 lv 12 17 n15) 12 18 n16) 12 44 n17) 12 45 n18) 12 46 n24) 12 47 n25) (u2 (u2 fa 12 39 n21) 12 40 n22) (u2 (u2 la 12 42 n11) 12 43 n12)) H := hP
                  have hD9 : va_D A (WM h g ca (u2 (u2 iv 12 19 n13) 12 41 n23) (u2 (u2 (u2 (u2 (u2 (u2 lv 12 17 n15) 12 18 n16) 12 44 n17) 12 45 n18) 12 46 n24) 12 47 n25) (u2 (u2 fa 12 39 n21) 12 40 n22) (u2 (u2 la 12 42 n11) 12 43 n12)) := hD
                  exact W.lret (v := n24) hx hb hr (fun t ht9 hW => ⟨⟨n24, ((u2 (u2 iv 12 19 n13) 12 41 n23), (u2 (u2 (u2 (u2 (u2 (u2 lv 12 17 n15) 12 18 n16) 12 44 n17) 12 45 n18) 12 46 n24) 12 47 n25), (u2 (u2 fa 12 39 n21) 12 40 n22), (u2 (u2 la 12 42 n11) 12 43 n12)), rfl, ⟨n21, n22, n11, n12, n13, n23, n15, n16, n17, n18, n24, n25, hn21, hn22, (show inb (0, 8) n23 from ⟨by omega, by omega⟩), (show (((n24 : Int64).toInt = -100001 ∧ ¬ (0 ≤ (a).toInt ∧ (a).toInt < (iv 12 1).toInt)) ∨ ((n24 : Int64).toInt = -100002 ∧ (0 ≤ (a).toInt ∧ (a).toInt < (iv 12 1).toInt) ∧ ¬ (0 ≤ (b).toInt ∧ (b).toInt ≤ (iv 12 0).toInt ∧ 0 ≤ (d).toInt ∧ (d).toInt ≤ 1)) ∨ ((0 ≤ (a).toInt ∧ (a).toInt < (iv 12 1).toInt) ∧ (0 ≤ (b).toInt ∧ (b).toInt ≤ (iv 12 0).toInt ∧ 0 ≤ (d).toInt ∧ (d).toInt ≤ 1) ∧ ∃ (D R : Nat → Int64) (up dn ro : Int), LwT (fun q v => FoY (iv 12 23).toInt (fa 12 24) (fa 12 25) (fa 12 26) (fa 12 27) (fa 12 28) q (b).toInt v) (fa 12 4) (fa 12 5) (fa 12 11) (fa 12 12) (fa 12 7) (fa 12 8) (a).toInt (b).toInt ((iv 12 3).toInt).toNat D R up dn ro ∧ ((ro ≠ 1 ∧ (n24 : Int64).toInt = -100003) ∨ (ro = 1 ∧ ∃ wt LU LD : Int, FoY (iv 12 23).toInt (fa 12 24) (fa 12 25) (fa 12 26) (fa 12 27) (fa 12 28) 0 (b).toInt wt ∧ 0 ≤ wt ∧ LwY up dn (((fa 12 2) ((a).toInt).toNat).toInt * (1000 + wt)) LU LD ∧ ltY LU LD (d).toInt (n24 : Int64).toInt)))) from (by obtain ⟨wt9, k1, k2, k3, k4⟩ := xr20_0; exact Or.inr (Or.inr ⟨⟨by omega, by omega⟩, ⟨by omega, by omega, by omega, by omega⟩, ⟨n11, n12, (n17 : Int64).toInt, (n18 : Int64).toInt, _, xr8_0, Or.inr ⟨by omega, wt9, _, _, k1, k2, k4, (by unfold ltY; omega)⟩⟩⟩))), trivial, rfl⟩, by rw [ht9]; exact hP9, hD9⟩, hS.F ht9⟩) hS.2.2 dX12_lawful_77
              · have fc19 := z_ne (rfl : (r8).toInt = _) (by decide : (1 : Int32).toInt = 1) c19
                refine lv_ldc2 hx hb hown (ht _ m_1562) dX12_lawful_44 ?_
                have : ((-100003) : Int64).toInt = (-100003) := (by decide)
                have hP9 : va_P (dC, dI) classes (WM h g ca (u2 (u2 iv 12 19 n13) 12 41 n14) (u2 (u2 (u2 (u2 (u2 (u2 lv 12 17 n15) 12 18 n16) 12 44 n17) 12 45 n18) 12 46 (lv 12 46)) 12 47 (lv 12 47)) (u2 (u2 fa 12 39 n9) 12 40 n10) (u2 (u2 la 12 42 n11) 12 43 n12)) H := hP
                have hD9 : va_D A (WM h g ca (u2 (u2 iv 12 19 n13) 12 41 n14) (u2 (u2 (u2 (u2 (u2 (u2 lv 12 17 n15) 12 18 n16) 12 44 n17) 12 45 n18) 12 46 (lv 12 46)) 12 47 (lv 12 47)) (u2 (u2 fa 12 39 n9) 12 40 n10) (u2 (u2 la 12 42 n11) 12 43 n12)) := hD
                exact W.lret (v := (-100003)) hx hb hr (fun t ht9 hW => ⟨⟨(-100003), ((u2 (u2 iv 12 19 n13) 12 41 n14), (u2 (u2 (u2 (u2 (u2 (u2 lv 12 17 n15) 12 18 n16) 12 44 n17) 12 45 n18) 12 46 (lv 12 46)) 12 47 (lv 12 47)), (u2 (u2 fa 12 39 n9) 12 40 n10), (u2 (u2 la 12 42 n11) 12 43 n12)), rfl, ⟨n9, n10, n11, n12, n13, n14, n15, n16, n17, n18, (lv 12 46), (lv 12 47), hn9, hn10, (show inb (0, 8) n14 from ⟨by omega, by omega⟩), (show ((((-100003) : Int64).toInt = -100001 ∧ ¬ (0 ≤ (a).toInt ∧ (a).toInt < (iv 12 1).toInt)) ∨ (((-100003) : Int64).toInt = -100002 ∧ (0 ≤ (a).toInt ∧ (a).toInt < (iv 12 1).toInt) ∧ ¬ (0 ≤ (b).toInt ∧ (b).toInt ≤ (iv 12 0).toInt ∧ 0 ≤ (d).toInt ∧ (d).toInt ≤ 1)) ∨ ((0 ≤ (a).toInt ∧ (a).toInt < (iv 12 1).toInt) ∧ (0 ≤ (b).toInt ∧ (b).toInt ≤ (iv 12 0).toInt ∧ 0 ≤ (d).toInt ∧ (d).toInt ≤ 1) ∧ ∃ (D R : Nat → Int64) (up dn ro : Int), LwT (fun q v => FoY (iv 12 23).toInt (fa 12 24) (fa 12 25) (fa 12 26) (fa 12 27) (fa 12 28) q (b).toInt v) (fa 12 4) (fa 12 5) (fa 12 11) (fa 12 12) (fa 12 7) (fa 12 8) (a).toInt (b).toInt ((iv 12 3).toInt).toNat D R up dn ro ∧ ((ro ≠ 1 ∧ ((-100003) : Int64).toInt = -100003) ∨ (ro = 1 ∧ ∃ wt LU LD : Int, FoY (iv 12 23).toInt (fa 12 24) (fa 12 25) (fa 12 26) (fa 12 27) (fa 12 28) 0 (b).toInt wt ∧ 0 ≤ wt ∧ LwY up dn (((fa 12 2) ((a).toInt).toNat).toInt * (1000 + wt)) LU LD ∧ ltY LU LD (d).toInt ((-100003) : Int64).toInt)))) from Or.inr (Or.inr ⟨⟨by omega, by omega⟩, ⟨by omega, by omega, by omega, by omega⟩, ⟨n11, n12, (n17 : Int64).toInt, (n18 : Int64).toInt, _, xr8_0, Or.inl ⟨by omega, by omega⟩⟩⟩)), trivial, rfl⟩, by rw [ht9]; exact hP9, hD9⟩, hS.F ht9⟩) hS.2.2 dX12_lawful_47
            · exact absurd c7 (by decide)
          · skip
            refine lv_if_ne (tgt := 34) hx hb dX12_lawful_27 (by decide) (fun c27 => ?_) (fun c27 => ?_)
            · exact absurd rfl c27
            · skip
              refine lv_ldc2 hx hb hown (ht _ m_1561) dX12_lawful_30 ?_
              have : ((-100002) : Int64).toInt = (-100002) := (by decide)
              have hP9 : va_P (dC, dI) classes (WM h g ca (u2 (u2 iv 12 19 (iv 12 19)) 12 41 (iv 12 41)) (u2 (u2 (u2 (u2 (u2 (u2 lv 12 17 (lv 12 17)) 12 18 (lv 12 18)) 12 44 (lv 12 44)) 12 45 (lv 12 45)) 12 46 (lv 12 46)) 12 47 (lv 12 47)) (u2 (u2 fa 12 39 (fa 12 39)) 12 40 (fa 12 40)) (u2 (u2 la 12 42 (la 12 42)) 12 43 (la 12 43))) s.heap := hP
              have hD9 : va_D A (WM h g ca (u2 (u2 iv 12 19 (iv 12 19)) 12 41 (iv 12 41)) (u2 (u2 (u2 (u2 (u2 (u2 lv 12 17 (lv 12 17)) 12 18 (lv 12 18)) 12 44 (lv 12 44)) 12 45 (lv 12 45)) 12 46 (lv 12 46)) 12 47 (lv 12 47)) (u2 (u2 fa 12 39 (fa 12 39)) 12 40 (fa 12 40)) (u2 (u2 la 12 42 (la 12 42)) 12 43 (la 12 43))) := hD
              exact W.lret (v := (-100002)) hx hb hr (fun t ht9 hW => ⟨⟨(-100002), ((u2 (u2 iv 12 19 (iv 12 19)) 12 41 (iv 12 41)), (u2 (u2 (u2 (u2 (u2 (u2 lv 12 17 (lv 12 17)) 12 18 (lv 12 18)) 12 44 (lv 12 44)) 12 45 (lv 12 45)) 12 46 (lv 12 46)) 12 47 (lv 12 47)), (u2 (u2 fa 12 39 (fa 12 39)) 12 40 (fa 12 40)), (u2 (u2 la 12 42 (la 12 42)) 12 43 (la 12 43))), rfl, ⟨(fa 12 39), (fa 12 40), (la 12 42), (la 12 43), (iv 12 19), (iv 12 41), (lv 12 17), (lv 12 18), (lv 12 44), (lv 12 45), (lv 12 46), (lv 12 47), (hI.2 12 39), (hI.2 12 40), (hI.1 12 41), (show ((((-100002) : Int64).toInt = -100001 ∧ ¬ (0 ≤ (a).toInt ∧ (a).toInt < (iv 12 1).toInt)) ∨ (((-100002) : Int64).toInt = -100002 ∧ (0 ≤ (a).toInt ∧ (a).toInt < (iv 12 1).toInt) ∧ ¬ (0 ≤ (b).toInt ∧ (b).toInt ≤ (iv 12 0).toInt ∧ 0 ≤ (d).toInt ∧ (d).toInt ≤ 1)) ∨ ((0 ≤ (a).toInt ∧ (a).toInt < (iv 12 1).toInt) ∧ (0 ≤ (b).toInt ∧ (b).toInt ≤ (iv 12 0).toInt ∧ 0 ≤ (d).toInt ∧ (d).toInt ≤ 1) ∧ ∃ (D R : Nat → Int64) (up dn ro : Int), LwT (fun q v => FoY (iv 12 23).toInt (fa 12 24) (fa 12 25) (fa 12 26) (fa 12 27) (fa 12 28) q (b).toInt v) (fa 12 4) (fa 12 5) (fa 12 11) (fa 12 12) (fa 12 7) (fa 12 8) (a).toInt (b).toInt ((iv 12 3).toInt).toNat D R up dn ro ∧ ((ro ≠ 1 ∧ ((-100002) : Int64).toInt = -100003) ∨ (ro = 1 ∧ ∃ wt LU LD : Int, FoY (iv 12 23).toInt (fa 12 24) (fa 12 25) (fa 12 26) (fa 12 27) (fa 12 28) 0 (b).toInt wt ∧ 0 ≤ wt ∧ LwY up dn (((fa 12 2) ((a).toInt).toNat).toInt * (1000 + wt)) LU LD ∧ ltY LU LD (d).toInt ((-100002) : Int64).toInt)))) from Or.inr (Or.inl ⟨by omega, ⟨by omega, by omega⟩, by omega⟩)), trivial, rfl⟩, by rw [ht9]; exact hP9, hD9⟩, hS.F ht9⟩) hS.2.2 dX12_lawful_33
      · skip
        refine lv_if_eq (tgt := 30) hx hb dX12_lawful_17 (by decide) (fun c28 => ?_) (fun c28 => ?_)
        · skip
          refine lv_ldc2 hx hb hown (ht _ m_1561) dX12_lawful_30 ?_
          have : ((-100002) : Int64).toInt = (-100002) := (by decide)
          have hP9 : va_P (dC, dI) classes (WM h g ca (u2 (u2 iv 12 19 (iv 12 19)) 12 41 (iv 12 41)) (u2 (u2 (u2 (u2 (u2 (u2 lv 12 17 (lv 12 17)) 12 18 (lv 12 18)) 12 44 (lv 12 44)) 12 45 (lv 12 45)) 12 46 (lv 12 46)) 12 47 (lv 12 47)) (u2 (u2 fa 12 39 (fa 12 39)) 12 40 (fa 12 40)) (u2 (u2 la 12 42 (la 12 42)) 12 43 (la 12 43))) s.heap := hP
          have hD9 : va_D A (WM h g ca (u2 (u2 iv 12 19 (iv 12 19)) 12 41 (iv 12 41)) (u2 (u2 (u2 (u2 (u2 (u2 lv 12 17 (lv 12 17)) 12 18 (lv 12 18)) 12 44 (lv 12 44)) 12 45 (lv 12 45)) 12 46 (lv 12 46)) 12 47 (lv 12 47)) (u2 (u2 fa 12 39 (fa 12 39)) 12 40 (fa 12 40)) (u2 (u2 la 12 42 (la 12 42)) 12 43 (la 12 43))) := hD
          exact W.lret (v := (-100002)) hx hb hr (fun t ht9 hW => ⟨⟨(-100002), ((u2 (u2 iv 12 19 (iv 12 19)) 12 41 (iv 12 41)), (u2 (u2 (u2 (u2 (u2 (u2 lv 12 17 (lv 12 17)) 12 18 (lv 12 18)) 12 44 (lv 12 44)) 12 45 (lv 12 45)) 12 46 (lv 12 46)) 12 47 (lv 12 47)), (u2 (u2 fa 12 39 (fa 12 39)) 12 40 (fa 12 40)), (u2 (u2 la 12 42 (la 12 42)) 12 43 (la 12 43))), rfl, ⟨(fa 12 39), (fa 12 40), (la 12 42), (la 12 43), (iv 12 19), (iv 12 41), (lv 12 17), (lv 12 18), (lv 12 44), (lv 12 45), (lv 12 46), (lv 12 47), (hI.2 12 39), (hI.2 12 40), (hI.1 12 41), (show ((((-100002) : Int64).toInt = -100001 ∧ ¬ (0 ≤ (a).toInt ∧ (a).toInt < (iv 12 1).toInt)) ∨ (((-100002) : Int64).toInt = -100002 ∧ (0 ≤ (a).toInt ∧ (a).toInt < (iv 12 1).toInt) ∧ ¬ (0 ≤ (b).toInt ∧ (b).toInt ≤ (iv 12 0).toInt ∧ 0 ≤ (d).toInt ∧ (d).toInt ≤ 1)) ∨ ((0 ≤ (a).toInt ∧ (a).toInt < (iv 12 1).toInt) ∧ (0 ≤ (b).toInt ∧ (b).toInt ≤ (iv 12 0).toInt ∧ 0 ≤ (d).toInt ∧ (d).toInt ≤ 1) ∧ ∃ (D R : Nat → Int64) (up dn ro : Int), LwT (fun q v => FoY (iv 12 23).toInt (fa 12 24) (fa 12 25) (fa 12 26) (fa 12 27) (fa 12 28) q (b).toInt v) (fa 12 4) (fa 12 5) (fa 12 11) (fa 12 12) (fa 12 7) (fa 12 8) (a).toInt (b).toInt ((iv 12 3).toInt).toNat D R up dn ro ∧ ((ro ≠ 1 ∧ ((-100002) : Int64).toInt = -100003) ∨ (ro = 1 ∧ ∃ wt LU LD : Int, FoY (iv 12 23).toInt (fa 12 24) (fa 12 25) (fa 12 26) (fa 12 27) (fa 12 28) 0 (b).toInt wt ∧ 0 ≤ wt ∧ LwY up dn (((fa 12 2) ((a).toInt).toNat).toInt * (1000 + wt)) LU LD ∧ ltY LU LD (d).toInt ((-100002) : Int64).toInt)))) from Or.inr (Or.inl ⟨by omega, ⟨by omega, by omega⟩, by omega⟩)), trivial, rfl⟩, by rw [ht9]; exact hP9, hD9⟩, hS.F ht9⟩) hS.2.2 dX12_lawful_33
        · exact absurd rfl c28
    · exact absurd rfl c3
/-! ===== pa0 ===== -/

/-- papers as both sides keep them; a paper is good: its kind, its worth, what it hangs on is before it -/
def PaG (p : Nat) (k : Int) (w : Int) (o d u : Int) : Prop := (k = 0 ∨ k = 1) ∧ 0 ≤ w ∧ (k = 0 → w ≤ 129998) ∧ w ≤ 129868002 ∧ -1 ≤ o ∧ o < (p : Int) ∧ -1 ≤ u
def PaE (n : Int) (k b a o d u k' b' : Nat → Int32) (w' : Nat → Int64) (o' d' u' : Nat → Int32) : Prop := ∀ p : Nat, (p : Int) < n → (k p = k' p ∧ b p = b' p ∧ (a p).toInt = (w' p).toInt ∧ o p = o' p ∧ d p = d' p ∧ u p = u' p) ∧ PaG p (k' p).toInt (w' p).toInt (o' p).toInt (d' p).toInt (u' p).toInt
def SmX (k b a o d u k2 b2 a2 o2 d2 u2 : Nat → Int32) : Prop := ∀ j : Nat, k2 j = k j ∧ b2 j = b j ∧ a2 j = a j ∧ o2 j = o j ∧ d2 j = d j ∧ u2 j = u j
def SmY (k b : Nat → Int32) (w : Nat → Int64) (o d u k2 b2 : Nat → Int32) (w2 : Nat → Int64) (o2 d2 u2 : Nat → Int32) : Prop := ∀ j : Nat, k2 j = k j ∧ b2 j = b j ∧ w2 j = w j ∧ o2 j = o j ∧ d2 j = d j ∧ u2 j = u j
def ApX (n : Nat) (k b a o d u k2 b2 a2 o2 d2 u2 : Nat → Int32) (vk vb va vo vd : Int) : Prop := (∀ j : Nat, j ≠ n → k2 j = k j ∧ b2 j = b j ∧ a2 j = a j ∧ o2 j = o j ∧ d2 j = d j ∧ u2 j = u j) ∧ (k2 n).toInt = vk ∧ (b2 n).toInt = vb ∧ (a2 n).toInt = va ∧ (o2 n).toInt = vo ∧ (d2 n).toInt = vd ∧ (u2 n).toInt = -1
def ApY (n : Nat) (k b : Nat → Int32) (w : Nat → Int64) (o d u k2 b2 : Nat → Int32) (w2 : Nat → Int64) (o2 d2 u2 : Nat → Int32) (vk vb va vo vd : Int) : Prop := (∀ j : Nat, j ≠ n → k2 j = k j ∧ b2 j = b j ∧ w2 j = w j ∧ o2 j = o j ∧ d2 j = d j ∧ u2 j = u j) ∧ (k2 n).toInt = vk ∧ (b2 n).toInt = vb ∧ (w2 n).toInt = va ∧ (o2 n).toInt = vo ∧ (d2 n).toInt = vd ∧ (u2 n).toInt = -1
theorem PaE_same {n : Int} {k b a o d u k2 b2 a2 o2 d2 u2 k' b' o' d' u' k3 b3 o3 d3 u3 : Nat → Int32} {w' w3 : Nat → Int64} (h : PaE n k b a o d u k' b' w' o' d' u') (x : SmX k b a o d u k2 b2 a2 o2 d2 u2) (y : SmY k' b' w' o' d' u' k3 b3 w3 o3 d3 u3) : PaE n k2 b2 a2 o2 d2 u2 k3 b3 w3 o3 d3 u3 := by
  intro p hp
  obtain ⟨x1, x2, x3, x4, x5, x6⟩ := x p
  obtain ⟨y1, y2, y3, y4, y5, y6⟩ := y p
  rw [x1, x2, x3, x4, x5, x6, y1, y2, y3, y4, y5, y6]
  exact h p hp
theorem PaE_add {n vk vb va vo vd : Int} {k b a o d u k2 b2 a2 o2 d2 u2 k' b' o' d' u' k3 b3 o3 d3 u3 : Nat → Int32} {w' w3 : Nat → Int64} {N : Nat} (hn : (N : Int) = n) (h : PaE n k b a o d u k' b' w' o' d' u') (x : ApX N k b a o d u k2 b2 a2 o2 d2 u2 vk vb va vo vd) (y : ApY N k' b' w' o' d' u' k3 b3 w3 o3 d3 u3 vk vb va vo vd) (g : PaG N vk va vo vd (-1)) : PaE (n + 1) k2 b2 a2 o2 d2 u2 k3 b3 w3 o3 d3 u3 := by
  intro p hp
  obtain ⟨x0, x1, x2, x3, x4, x5, x6⟩ := x
  obtain ⟨y0, y1, y2, y3, y4, y5, y6⟩ := y
  by_cases e : p = N
  · rw [e, y1, y3, y4, y5, y6]
    exact ⟨⟨Int32.toInt_inj.mp (x1.trans y1.symm), Int32.toInt_inj.mp (x2.trans y2.symm), x3, Int32.toInt_inj.mp (x4.trans y4.symm), Int32.toInt_inj.mp (x5.trans y5.symm), Int32.toInt_inj.mp (x6.trans y6.symm)⟩, g⟩
  · obtain ⟨p1, p2, p3, p4, p5, p6⟩ := x0 p e
    obtain ⟨q1, q2, q3, q4, q5, q6⟩ := y0 p e
    rw [p1, p2, p3, p4, p5, p6, q1, q2, q3, q4, q5, q6]
    exact h p (by omega)
/-- one is undone -/
theorem PaE_u {n v : Int} {P : Nat} {k b a o d u u2 k' b' o' d' u' u3 : Nat → Int32} {w' : Nat → Int64} (h : PaE n k b a o d u k' b' w' o' d' u') (hv : -1 ≤ v) (x0 : ∀ j : Nat, j ≠ P → u2 j = u j) (x1 : (u2 P).toInt = v) (y0 : ∀ j : Nat, j ≠ P → u3 j = u' j) (y1 : (u3 P).toInt = v) : PaE n k b a o d u2 k' b' w' o' d' u3 := by
  intro p hp
  obtain ⟨⟨h1, h2, h3, h4, h5, h6⟩, g1, g2, g3, g4, g5, g6, g7⟩ := h p hp
  by_cases e : p = P
  · subst e
    exact ⟨⟨h1, h2, h3, h4, h5, Int32.toInt_inj.mp (x1.trans y1.symm)⟩, g1, g2, g3, g4, g5, g6, by rw [y1]; exact hv⟩
  · rw [x0 p e, y0 p e]
    exact ⟨⟨h1, h2, h3, h4, h5, h6⟩, g1, g2, g3, g4, g5, g6, g7⟩
/-- a bale has a certificate that stands; a bill hangs on a paper -/
def CeX (n : Int) (k b u : Nat → Int32) (x : Int) : Prop := ∃ p : Nat, (p : Int) < n ∧ (k p).toInt = 0 ∧ (b p).toInt = x ∧ (u p).toInt = -1
def CeY (n : Int) (k b u : Nat → Int32) (x : Int) : Prop := ∃ p : Nat, (p : Int) < n ∧ (k p).toInt = 0 ∧ (b p).toInt = x ∧ (u p).toInt < 0
def BiX (n : Int) (k o u : Nat → Int32) (x : Int) : Prop := ∃ p : Nat, (p : Int) < n ∧ (k p).toInt = 1 ∧ (o p).toInt = x ∧ (u p).toInt = -1
def BiY (n : Int) (k o u : Nat → Int32) (x : Int) : Prop := ∃ p : Nat, (p : Int) < n ∧ (k p).toInt = 1 ∧ (o p).toInt = x ∧ (u p).toInt < 0
theorem Ce_xy {n x : Int} {k b a o d u k' b' o' d' u' : Nat → Int32} {w' : Nat → Int64} (h : PaE n k b a o d u k' b' w' o' d' u') : CeX n k b u x ↔ CeY n k' b' u' x := by
  constructor
  · rintro ⟨p, q1, q2, q3, q4⟩
    obtain ⟨⟨h1, h2, h3, h4, h5, h6⟩, g1, g2, g3, g4, g5, g6, g7⟩ := h p q1
    rw [h1] at q2
    rw [h2] at q3
    rw [h6] at q4
    exact ⟨p, q1, q2, q3, by omega⟩
  · rintro ⟨p, q1, q2, q3, q4⟩
    obtain ⟨⟨h1, h2, h3, h4, h5, h6⟩, g1, g2, g3, g4, g5, g6, g7⟩ := h p q1
    rw [← h1] at q2
    rw [← h2] at q3
    rw [← h6] at q4 g7
    exact ⟨p, q1, q2, q3, by omega⟩
theorem Bi_xy {n x : Int} {k b a o d u k' b' o' d' u' : Nat → Int32} {w' : Nat → Int64} (h : PaE n k b a o d u k' b' w' o' d' u') : BiX n k o u x ↔ BiY n k' o' u' x := by
  constructor
  · rintro ⟨p, q1, q2, q3, q4⟩
    obtain ⟨⟨h1, h2, h3, h4, h5, h6⟩, g1, g2, g3, g4, g5, g6, g7⟩ := h p q1
    rw [h1] at q2
    rw [h4] at q3
    rw [h6] at q4
    exact ⟨p, q1, q2, q3, by omega⟩
  · rintro ⟨p, q1, q2, q3, q4⟩
    obtain ⟨⟨h1, h2, h3, h4, h5, h6⟩, g1, g2, g3, g4, g5, g6, g7⟩ := h p q1
    rw [← h1] at q2
    rw [← h4] at q3
    rw [← h6] at q4 g7
    exact ⟨p, q1, q2, q3, by omega⟩
/-- a certificate that stands -/
def StX (k u : Nat → Int32) (p : Nat) : Prop := (k p).toInt = 0 ∧ (u p).toInt = -1
def StY (k u : Nat → Int32) (p : Nat) : Prop := (k p).toInt = 0 ∧ (u p).toInt < 0
theorem St_xy {n : Int} {p : Nat} {k b a o d u k' b' o' d' u' : Nat → Int32} {w' : Nat → Int64} (h : PaE n k b a o d u k' b' w' o' d' u') (hp : (p : Int) < n) : StX k u p ↔ StY k' u' p := by
  obtain ⟨⟨h1, h2, h3, h4, h5, h6⟩, g1, g2, g3, g4, g5, g6, g7⟩ := h p hp
  unfold StX StY
  rw [h1, h6]
  constructor
  · intro q; exact ⟨q.1, by omega⟩
  · intro q; exact ⟨q.1, by omega⟩
/-- what falls with a paper -/
def Fa (n : Int) (o : Nat → Int32) (P : Nat) (T : Nat → Prop) : Prop := ∀ q : Nat, (q : Int) < n → (T q ↔ (q = P ∨ (0 ≤ (o q).toInt ∧ T ((o q).toInt).toNat)))
theorem Fa_un {n : Int} {o o' : Nat → Int32} {P : Nat} {T S : Nat → Prop} (ho : ∀ q : Nat, (q : Int) < n → o q = o' q ∧ (o' q).toInt < (q : Int)) (h : Fa n o P T) (k : Fa n o' P S) : ∀ m : Nat, ∀ q : Nat, q < m → (q : Int) < n → (T q ↔ S q) := by
  intro m
  induction m with
  | zero => intro q hq; exact absurd hq (Nat.not_lt_zero q)
  | succ m ih =>
    intro q hq hn
    obtain ⟨e1, e2⟩ := ho q hn
    have a := h q hn
    have b := k q hn
    rw [e1] at a
    by_cases z : 0 ≤ (o' q).toInt
    · have c := ih ((o' q).toInt.toNat) (by omega) (by omega)
      rw [a, b, c]
    · constructor
      · intro t
        rcases a.mp t with r | r
        · exact b.mpr (Or.inl r)
        · exact absurd r.1 z
      · intro t
        rcases b.mp t with r | r
        · exact a.mpr (Or.inl r)
        · exact absurd r.1 z
/-- what is undone by that -/
def UnX (n : Int) (u u2 : Nat → Int32) (T : Nat → Prop) (v : Int) : Prop := (∀ q : Nat, (q : Int) < n → T q → (u q).toInt < 0 → (u2 q).toInt = v) ∧ (∀ q : Nat, (q : Int) < n → ¬ (T q ∧ (u q).toInt < 0) → u2 q = u q)
theorem PaE_un {n v : Int} {k b a o d u u2 k' b' o' d' u' u3 : Nat → Int32} {w' : Nat → Int64} {T S : Nat → Prop} (h : PaE n k b a o d u k' b' w' o' d' u') (hv : -1 ≤ v) (hT : ∀ q : Nat, (q : Int) < n → (T q ↔ S q)) (x : UnX n u u2 T v) (y : UnX n u' u3 S v) : PaE n k b a o d u2 k' b' w' o' d' u3 := by
  intro p hp
  obtain ⟨⟨h1, h2, h3, h4, h5, h6⟩, g1, g2, g3, g4, g5, g6, g7⟩ := h p hp
  have t := hT p hp
  by_cases e : S p ∧ (u' p).toInt < 0
  · have z1 := y.1 p hp e.1 e.2
    have z2 := x.1 p hp (t.mpr e.1) (by rw [h6]; exact e.2)
    exact ⟨⟨h1, h2, h3, h4, h5, Int32.toInt_inj.mp (z2.trans z1.symm)⟩, g1, g2, g3, g4, g5, g6, by rw [z1]; exact hv⟩
  · rw [y.2 p hp e, x.2 p hp (fun q => e ⟨t.mp q.1, by rw [← h6]; exact q.2⟩)]
    exact ⟨⟨h1, h2, h3, h4, h5, h6⟩, g1, g2, g3, g4, g5, g6, g7⟩
theorem smC_0 {c : Nat → Prop} : ∀ n : Nat, (∀ j : Nat, j < n → ¬ c j) → smC c n = 0
  | 0, _ => rfl
  | n + 1, h => by rw [smC_n rfl (h n (Nat.lt_succ_self n))]; exact smC_0 n (fun j hj => h j (Nat.lt_succ_of_lt hj))
/-- bits of a long -/
def tbL (g : Int64) (q : Nat) : Prop := g.toBitVec.toNat.testBit q = true
theorem s1_tab : ∀ n : Fin 40, ((1 : Int64) <<< ((Int32.ofNat n.val).toInt64 &&& 63)).toBitVec.toNat = 2 ^ n.val := by decide +kernel
theorem s2_tab : ∀ n : Fin 40, (((Int32.ofNat n.val).toInt64 &&& 63).toBitVec.smod 64).toNat = n.val := by decide +kernel
theorem of_nat3 {a : Int32} (h : 0 ≤ a.toInt) : a = Int32.ofNat a.toInt.toNat := by
  apply Int32.toInt_inj.mp
  have h1 := Int32.toInt_lt a
  rw [Int32.toInt_ofNat_of_lt (by omega)]; omega
theorem s1_a {a : Int32} (h : 0 ≤ a.toInt ∧ a.toInt ≤ 39) : ((1 : Int64) <<< (a.toInt64 &&& 63)).toBitVec.toNat = 2 ^ a.toInt.toNat := by
  have q := s1_tab ⟨a.toInt.toNat, by omega⟩
  rw [← of_nat3 h.1] at q
  exact q
theorem s2_a {a : Int32} (h : 0 ≤ a.toInt ∧ a.toInt ≤ 39) : ((a.toInt64 &&& 63).toBitVec.smod 64).toNat = a.toInt.toNat := by
  have q := s2_tab ⟨a.toInt.toNat, by omega⟩
  rw [← of_nat3 h.1] at q
  exact q
theorem tb_1 {a : Int32} {g : Int64} (h : 0 ≤ a.toInt ∧ a.toInt ≤ 39) (e : g = (1 : Int64) <<< (a.toInt64 &&& 63)) (q : Nat) : tbL g q ↔ q = a.toInt.toNat := by
  unfold tbL
  rw [e, s1_a h, Nat.testBit_two_pow]
  constructor
  · intro z; exact (of_decide_eq_true z).symm
  · intro z; exact decide_eq_true z.symm
theorem tb_or {g y z : Int64} {a : Int32} (h : 0 ≤ a.toInt ∧ a.toInt ≤ 39) (e1 : y = (1 : Int64) <<< (a.toInt64 &&& 63)) (e2 : z = g ||| y) (q : Nat) : tbL z q ↔ (tbL g q ∨ q = a.toInt.toNat) := by
  have k := tb_1 h e1 q
  unfold tbL at k ⊢
  have e3 : z.toBitVec.toNat = g.toBitVec.toNat ||| y.toBitVec.toNat := by
    rw [e2]
    show (g.toBitVec ||| y.toBitVec).toNat = _
    rw [BitVec.toNat_or]
  rw [e3, Nat.testBit_or, Bool.or_eq_true, k]
theorem tb_at {g y z : Int64} {a : Int32} (h : 0 ≤ a.toInt ∧ a.toInt ≤ 39) (e1 : y = g >>> (a.toInt64 &&& 63)) (e2 : z = y &&& 1) : (z.toInt = 1 ↔ tbL g a.toInt.toNat) ∧ (z.toInt = 1 ∨ z.toInt = 0) := by
  have v1 : y.toBitVec = g.toBitVec.sshiftRight a.toInt.toNat := by
    rw [e1]
    show g.toBitVec.sshiftRight ((a.toInt64 &&& 63).toBitVec.smod 64).toNat = _
    rw [s2_a h]
  have v2 : z.toBitVec.toNat = y.toBitVec.toNat % 2 := by
    rw [e2]
    show (y.toBitVec &&& (1 : Int64).toBitVec).toNat = _
    rw [BitVec.toNat_and]
    exact Nat.and_one_is_mod _
  have v3 : y.toBitVec.toNat.testBit 0 = g.toBitVec.toNat.testBit a.toInt.toNat := by
    have k := BitVec.getLsbD_sshiftRight g.toBitVec a.toInt.toNat 0
    rw [← v1] at k
    show y.toBitVec.getLsbD 0 = g.toBitVec.getLsbD a.toInt.toNat
    have n2 : a.toInt.toNat + 0 < 64 := by omega
    rw [k, if_pos n2]
    first | rfl | simp
  have v4 : z.toInt = ((z.toBitVec.toNat : Nat) : Int) := by
    show z.toBitVec.toInt = _
    rw [BitVec.toInt_eq_toNat_of_lt (by omega)]
  rw [Nat.testBit_zero] at v3
  unfold tbL
  rw [← v3, v4, v2]
  constructor
  · constructor
    · intro q; exact decide_eq_true (by omega)
    · intro q; have := of_decide_eq_true q; omega
  · omega

/-- a bit set of what falls, and what is undone by it: behind the first k papers -/
def Gn (o u : Nat → Int32) (P : Nat) (v : Int32) (g : Int64) (U : Nat → Int32) (k : Nat) (c : Int32) : Prop := (∀ q : Nat, q < k → (tbL g q ↔ (q = P ∨ (0 ≤ (o q).toInt ∧ tbL g ((o q).toInt).toNat)))) ∧ (∀ q : Nat, tbL g q → q < k) ∧ (∀ q : Nat, ((tbL g q ∧ (u q).toInt < 0) → U q = v) ∧ (¬ (tbL g q ∧ (u q).toInt < 0) → U q = u q)) ∧ c = smC (fun q : Nat => tbL g q ∧ (u q).toInt < 0) k
theorem Gn_0 {o u U : Nat → Int32} {a v : Int32} {g : Int64} {k : Nat} (h : 0 ≤ a.toInt ∧ a.toInt ≤ 39) (hk : k = a.toInt.toNat + 1) (e : g = (1 : Int64) <<< (a.toInt64 &&& 63)) (hu : (u a.toInt.toNat).toInt < 0) (ho : ∀ q : Nat, q ≤ a.toInt.toNat → (o q).toInt < (q : Int)) (hU : ∀ q : Nat, q ≠ a.toInt.toNat → U q = u q) (hU1 : U a.toInt.toNat = v) : Gn o u a.toInt.toNat v g U k 1 := by
  have t := tb_1 h e
  subst hk
  refine ⟨fun q hq => ?_, fun q hq => ?_, fun q => ⟨fun z => ?_, fun z => ?_⟩, ?_⟩
  · have := ho q (by omega)
    rw [t q]
    constructor
    · intro z; exact Or.inl z
    · intro z
      rcases z with z | ⟨z1, z2⟩
      · exact z
      · have z3 := (t _).mp z2
        omega
  · have := (t q).mp hq
    omega
  · rw [(t q).mp z.1]; exact hU1
  · refine hU q (fun y => z ⟨(t q).mpr y, by rw [y]; exact hu⟩)
  · rw [smC_y rfl ⟨(t _).mpr rfl, hu⟩, smC_0 _ (fun j hj z => by have := (t j).mp z.1; omega)]
    rfl
theorem Gn_n {o u U : Nat → Int32} {v c : Int32} {g : Int64} {P k k' : Nat} (hk : k' = k + 1) (hP : P < k) (hn : 0 ≤ (o k).toInt → ¬ tbL g ((o k).toInt).toNat) (h : Gn o u P v g U k c) : Gn o u P v g U k' c := by
  obtain ⟨h1, h2, h3, h4⟩ := h
  have hb : ¬ tbL g k := fun z => absurd (h2 k z) (Nat.lt_irrefl k)
  subst hk
  refine ⟨fun q hq => ?_, fun q hq => Nat.lt_succ_of_lt (h2 q hq), h3, ?_⟩
  · by_cases e : q = k
    · rw [e]
      constructor
      · intro z; exact absurd z hb
      · intro z
        rcases z with z | ⟨z1, z2⟩
        · omega
        · exact absurd z2 (hn z1)
    · exact h1 q (by omega)
  · rw [smC_n rfl (fun z => hb z.1)]; exact h4
theorem Gn_y {o u U U' : Nat → Int32} {v c c' : Int32} {g z : Int64} {P k k' : Nat} (hk : k' = k + 1) (hP : P < k) (ho : ∀ q : Nat, q ≤ k → (o q).toInt < (q : Int)) (h0 : 0 ≤ (o k).toInt) (hb : tbL g ((o k).toInt).toNat) (hz : ∀ q : Nat, tbL z q ↔ (tbL g q ∨ q = k)) (hU : ∀ q : Nat, q ≠ k → U' q = U q) (hUy : (u k).toInt < 0 → U' k = v) (hUn : ¬ (u k).toInt < 0 → U' k = u k) (hcy : (u k).toInt < 0 → c' = c + 1) (hcn : ¬ (u k).toInt < 0 → c' = c + 0) (h : Gn o u P v g U k c) : Gn o u P v z U' k' c' := by
  obtain ⟨h1, h2, h3, h4⟩ := h
  subst hk
  refine ⟨fun q hq => ?_, fun q hq => ?_, fun q => ?_, ?_⟩
  · have z1 := ho q (by omega)
    by_cases e : q = k
    · subst e
      rw [hz q, hz ((o q).toInt).toNat]
      constructor
      · intro _; exact Or.inr ⟨h0, Or.inl hb⟩
      · intro _; exact Or.inr rfl
    · have k1 := h1 q (by omega)
      rw [hz q, hz ((o q).toInt).toNat]
      constructor
      · intro y
        rcases y with y | y
        · rcases k1.mp y with x | x
          · exact Or.inl x
          · exact Or.inr ⟨x.1, Or.inl x.2⟩
        · exact absurd y e
      · intro y
        rcases y with y | ⟨y1, y2⟩
        · exact Or.inl (k1.mpr (Or.inl y))
        · rcases y2 with y2 | y2
          · exact Or.inl (k1.mpr (Or.inr ⟨y1, y2⟩))
          · omega
  · rcases (hz q).mp hq with y | y
    · exact Nat.lt_succ_of_lt (h2 q y)
    · omega
  · by_cases e : q = k
    · subst e
      exact ⟨fun y => hUy y.2, fun y => hUn (fun x => y ⟨(hz q).mpr (Or.inr rfl), x⟩)⟩
    · rw [hU q e]
      refine ⟨fun y => (h3 q).1 ⟨((hz q).mp y.1).resolve_right e, y.2⟩, fun y => (h3 q).2 (fun x => y ⟨(hz q).mpr (Or.inl x.1), x.2⟩)⟩
  · have cg : smC (fun q : Nat => tbL g q ∧ (u q).toInt < 0) k = smC (fun q : Nat => tbL z q ∧ (u q).toInt < 0) k := smC_cg k (fun j hj => by
      rw [hz j]
      constructor
      · intro y; exact ⟨Or.inl y.1, y.2⟩
      · intro y; exact ⟨y.1.resolve_right (by omega), y.2⟩)
    by_cases e : (u k).toInt < 0
    · rw [hcy e, smC_y rfl ⟨(hz k).mpr (Or.inr rfl), e⟩, h4, cg]
    · rw [hcn e, smC_n rfl (fun y => e y.2), h4, cg, Int32.add_zero]
/-- both sides undo alike -/
theorem Un_xy {n r s : Int} {P : Nat} {dv ev : Int32} {k b a o d u u2 k' b' o' d' u' u3 : Nat → Int32} {w' : Nat → Int64} {T S : Nat → Prop} (h : PaE n k b a o d u k' b' w' o' d' u') (h0 : 0 ≤ n) (hv : 0 ≤ ev.toInt) (he : dv = ev) (t1 : Fa n o P T) (t2 : ∀ q : Nat, (((q : Int) < n ∧ T q ∧ (u q).toInt = -1) → u2 q = dv) ∧ (¬ ((q : Int) < n ∧ T q ∧ (u q).toInt = -1) → u2 q = u q)) (t3 : r = (smC (fun q : Nat => T q ∧ (u q).toInt = -1) n.toNat).toInt)
    (s1 : Fa n o' P S) (s2 : ∀ q : Nat, ((S q ∧ (u' q).toInt < 0) → u3 q = ev) ∧ (¬ (S q ∧ (u' q).toInt < 0) → u3 q = u' q)) (s3 : s = (smC (fun q : Nat => S q ∧ (u' q).toInt < 0) n.toNat).toInt) : r = s ∧ PaE n k b a o d u2 k' b' w' o' d' u3 := by
  have hT : ∀ q : Nat, (q : Int) < n → (T q ↔ S q) := fun q hq => Fa_un (fun q hq => ⟨(h q hq).1.2.2.2.1, (h q hq).2.2.2.2.2.2.1⟩) t1 s1 (q + 1) q (Nat.lt_succ_self q) hq
  have hu : ∀ q : Nat, (q : Int) < n → ((u q).toInt = -1 ↔ (u' q).toInt < 0) := by
    intro q hq
    obtain ⟨⟨-, -, -, -, -, h6⟩, g1, g2, g3, g4, g5, g6, g7⟩ := h q hq
    rw [h6]
    omega
  refine ⟨?_, ?_⟩
  · rw [t3, s3, smC_cg n.toNat (fun j hj => by rw [hT j (by omega), hu j (by omega)])]
  · subst he
    refine PaE_un h (by omega : -1 ≤ dv.toInt) hT (T := T) (S := S) ⟨fun q hq x y => ?_, fun q hq x => ?_⟩ ⟨fun q hq x y => congrArg Int32.toInt ((s2 q).1 ⟨x, y⟩), fun q hq x => (s2 q).2 x⟩
    · have e6 := (h q hq).1.2.2.2.2.2
      exact congrArg Int32.toInt ((t2 q).1 ⟨hq, x, (hu q hq).mpr (by rw [← e6]; exact y)⟩)
    · have e6 := (h q hq).1.2.2.2.2.2
      exact (t2 q).2 (fun y => x ⟨y.2.1, by rw [e6]; exact (hu q hq).mp y.2.2⟩)
/-- sums of longs -/
noncomputable def smW (c : Nat → Prop) (w : Nat → Int64) : Nat → Int64
  | 0 => 0
  | n + 1 => @ite Int64 (c n) (Classical.propDecidable _) (smW c w n + w n) (smW c w n)
theorem smW_y {c : Nat → Prop} {w : Nat → Int64} {n n' : Nat} (h : n' = n + 1) (hc : c n) : smW c w n' = smW c w n + w n := by
  rw [h]; exact if_pos hc
theorem smW_n {c : Nat → Prop} {w : Nat → Int64} {n n' : Nat} (h : n' = n + 1) (hc : ¬ c n) : smW c w n' = smW c w n := by
  rw [h]; exact if_neg hc
theorem smLW {c c' : Nat → Prop} {a : Nat → Int32} {w : Nat → Int64} : ∀ n : Nat, (∀ j : Nat, j < n → (c j ↔ c' j) ∧ (a j).toInt = (w j).toInt) → smL c a n = smW c' w n
  | 0, _ => rfl
  | n + 1, h => by
    have q := h n (Nat.lt_succ_self n)
    have r := smLW n (fun j hj => h j (Nat.lt_succ_of_lt hj))
    have e9 : (a n).toInt64 = w n := Int64.toInt_inj.mp ((Int32.toInt_toInt64 _).trans q.2)
    by_cases e : c n
    · rw [smL_y rfl e, smW_y rfl (q.1.mp e), r, e9]
    · rw [smL_n rfl e, smW_n rfl (fun z => e (q.1.mpr z)), r]
