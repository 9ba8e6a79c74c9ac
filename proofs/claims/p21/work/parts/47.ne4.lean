/-! ===== ne4 ===== -/
set_option maxHeartbeats 4000000 in
set_option maxRecDepth 100000 in
/-- X2_fewest -/
theorem c_X2_fewest_w (l : Launch) (dC : Nat → ClassId) (dI : Nat → Nat → Nat) (sz : Nat) (h : Nat) (g : Nat → Nat → Nat) (ca : Nat → Nat → ClassId) (iv : Nat → Nat → Int32) (lv : Nat → Nat → Int64) (fa : Nat → Nat → Nat → Int32) (la : Nat → Nat → Nat → Int64) (hI : IX iv fa) (a : Int32) (hJL : ∀ b l : Int32, cn0 (fun s => fa 10 0 (9 * s + 0)) (fun s => fa 10 0 (9 * s + 1)) b l (iv 10 1).toInt.toNat ≤ 12) : Met l yX2_fewest (wc yX2_fewest cX2_fewest 4 (some .int)) ({ frames := 15, cells := 0, slots := 0, locals := 388 } : Room) (pW (dC, dI) classes (WX h g ca iv lv fa la) (TX ca) sz [.ref (g 11 6), .int a]) (va_Qi (fun r (u : SS) => ∃ (na_2_2 : Nat → Int32) (na_20_2 : Nat → Int32) (nb_20_0 : Nat → Int64) (nb_20_1 : Nat → Int64) (ni_2_6 : Int32) (ni_2_7 : Int32), (∀ j, inb (bA 2 2 j) (na_2_2 j)) ∧ (∀ pt : Int32, pt.toInt = (iv 2 5).toInt → NeR (neX (fa 10 0) (iv 2 3).toInt (iv 2 4).toInt ((iv 10 1).toInt).toNat pt a) (lsP (cxP (fa 10 0) (iv 2 3).toInt (iv 2 4).toInt 0) ((iv 10 1).toInt).toNat).length r.toInt) ∧ ((-1) ≤ r.toInt ∧ r.toInt ≤ 12) ∧ u = ((u2 (u2 iv 2 6 ni_2_6) 2 7 ni_2_7), lv, (u2 (u2 fa 2 2 na_2_2) 20 2 na_20_2), (u2 (u2 la 20 0 nb_20_0) 20 1 nb_20_1))) (bX (dC, dI) h g ca (va_A (WX h g ca iv lv fa la) sz)) (va_A (WX h g ca iv lv fa la) sz)) 0 0 (va_A (WX h g ca iv lv fa la) sz) := by
  refine Met.ofW (cc := cX2_fewest) (maxL := 4) (ret := (some .int)) (by decide) rfl ?_
  intro p e s m args below meth c s₁ B hml hv
  obtain ⟨rfl, hsz, hP, hK, hD0⟩ := hv
  have hx := B.exec
  have hb := B.bytes
  have hr := B.returns
  have ht := tb_tl (atoms_spec (ws := wc yX2_fewest cX2_fewest 4 (some .int)) B.pre)
  have hown : s.vm.findClass RX2 = some m.cls := findClass_of_methodNamed B.named
  have hlocks := B.notSynchronized
  subst hsz
  have hD := hD0.self (sz := s.heap.size)
  generalize hAe : va_A (WX h g ca iv lv fa la) s.heap.size = A at hD ⊢
  have hA : ∀ q : Nat, s.heap.size ≤ q → A q := fun q h => by rw [← hAe]; exact Or.inr h
  have hS : va_S A s.heap s.heap [] := va_S.rf
  have hl := lv_entry [.ref (g 11 6), .int a] (n := 4) (Nat.le_of_ble_eq_true rfl)
  rw [lg_entry_eq]
  generalize (lg_sl [.ref (g 11 6), .int a] ++ List.replicate (4 - (lg_sl [.ref (g 11 6), .int a]).length) Slot.unset).toArray = ls at hl ⊢
  have hl : lv_has ls 4 [(0, .ref (g 11 6)), (1, .int a)] := hl
  refine lv_aload_n hx hb dX2_fewest_0 rfl (lv_at hl 0 rfl) ?_
  refine lv_iconst (v := 0) hx hb dX2_fewest_1 (by decide) ?_
  have hFc := free_all hD hS hA
  refine va_calli (va_runV (As := [.int 0]) (rest := []) ⟨hx, hb, hml, hown, ht⟩ (c_X2_listLook_w l dC dI s.heap.size h g ca iv lv fa la hI 0 hJL) (kV 1 ht m_921 m_923 m_37 m_85 m_924 rfl rfl hd_X2_listLook_v ⟨Nat.le_of_ble_eq_true rfl, Nat.le_of_ble_eq_true rfl⟩) (vW hP hK hD (rX_2 hK hP)) rfl rfl hl.1 rfl (lv_room (Nat.le_of_ble_eq_true rfl)) dX2_fewest_2 ⟨Nat.le_of_ble_eq_true rfl, Nat.le_of_ble_eq_true rfl⟩) hS (fun q _ h => hFc q h) hFc (fun r1 u t H1 locs ht9 hvm hr1 hB hz1 hk1 hS => ?_)
  obtain ⟨n2, hn2, xr1_0, xr1_1, hr1, rfl⟩ := hr1
  obtain ⟨hP, hD⟩ := hB
  rw [ht9] at hP
  generalize H1 = H at hP hS ⊢
  have hP : va_P (dC, dI) classes (WX h g ca iv lv (u2 fa 2 2 n2) la) H := hP
  have hD : va_D A (WX h g ca iv lv (u2 fa 2 2 n2) la) := (show va_D _ (WX h g ca iv lv (u2 fa 2 2 n2) la) from hD).weaken (fun _ _ _ h => hFc _ h)
  have : (0 : Int32).toInt = 0 := (by decide)
  have i_10_1 : 0 ≤ (iv 10 1).toInt ∧ (iv 10 1).toInt ≤ 60 := hI.1 10 1
  have xr1_0 : (r1 : Int32).toInt = ((lsP (cxP (fa 10 0) ((iv 2 3) : Int32).toInt ((iv 2 4) : Int32).toInt (0 : Int32).toInt) (((iv 10 1) : Int32).toInt).toNat).length : Int) := xr1_0
  have xr1_1 : ∀ k : Nat, k < (lsP (cxP (fa 10 0) ((iv 2 3) : Int32).toInt ((iv 2 4) : Int32).toInt (0 : Int32).toInt) (((iv 10 1) : Int32).toInt).toNat).length → (n2 k).toInt = ((atP (cxP (fa 10 0) ((iv 2 3) : Int32).toInt ((iv 2 4) : Int32).toInt (0 : Int32).toInt) (((iv 10 1) : Int32).toInt).toNat k : Nat) : Int) := xr1_1
  refine lv_istore_n (lv' := [(2, .int r1), (0, .ref (g 11 6)), (1, .int a)]) hx hb dX2_fewest_5 rfl hl (by decide) rfl (fun ls hl => ?_)
  refine lv_aload_n hx hb dX2_fewest_6 rfl (lv_at hl 1 rfl) ?_
  refine gX_2_1 hx hb ht hown hK hP m_305 dX2_fewest_7 ?_
  have hFc := free_all hD hS hA
  refine va_callv (va_runV (As := []) (rest := []) ⟨hx, hb, hml, hown, ht⟩ (c_X7_clear_s20 l dC dI H.size h g ca iv lv (u2 fa 2 2 n2) la (IX_a (c := 2) (k := 2) hI hn2)) (kV 0 ht m_882 m_569 m_570 m_84 m_571 rfl rfl hd_X7_clear_v ⟨Nat.le_of_ble_eq_true rfl, Nat.le_of_ble_eq_true rfl⟩) (vW hP hK hD (rX_20 hK hP)) rfl rfl hl.1 rfl (lv_room (Nat.le_of_ble_eq_true rfl)) dX2_fewest_10 ⟨Nat.le_of_ble_eq_true rfl, Nat.le_of_ble_eq_true rfl⟩) hS (fun q _ h => hFc q h) hFc (fun u t H1 locs ht9 hvm hr3 hB hz1 hk1 hS => ?_)
  obtain ⟨n4, n5, n6, xr3_0, rfl⟩ := hr3
  have hn4 : ∀ j, inb (bA 20 2 j) (n4 j) := fun j => full_i _
  obtain ⟨hP, hD⟩ := hB
  rw [ht9] at hP
  generalize H1 = H at hP hS ⊢
  have hP : va_P (dC, dI) classes (WX h g ca iv lv (u2 (u2 fa 2 2 n2) 20 2 n4) (u2 (u2 la 20 0 n5) 20 1 n6)) H := hP
  have hD : va_D A (WX h g ca iv lv (u2 (u2 fa 2 2 n2) 20 2 n4) (u2 (u2 la 20 0 n5) 20 1 n6)) := (show va_D _ (WX h g ca iv lv (u2 (u2 fa 2 2 n2) 20 2 n4) (u2 (u2 la 20 0 n5) 20 1 n6)) from hD).weaken (fun _ _ _ h => hFc _ h)
  have xr3_0 : ∀ j : Nat, j < 3 → n5 j = 0 ∧ n6 j = 0 ∧ n4 j = 0 := xr3_0
  refine lv_iconst (v := 0) hx hb dX2_fewest_13 (by decide) ?_
  refine lv_istore_n (lv' := [(3, .int 0), (2, .int r1), (0, .ref (g 11 6)), (1, .int a)]) hx hb dX2_fewest_14 rfl hl (by decide) rfl (fun ls hl => ?_)
  have lp4159 : ∀ (nn4159 : Nat) (x4158_3 : Int32) (w4158_a_20_2 : Nat → Int32) (w4158_b_20_0 : Nat → Int64) (w4158_b_20_1 : Nat → Int64), 0 ≤ x4158_3.toInt ∧ x4158_3.toInt ≤ 12 → (∀ j, inb (bA 20 2 j) (w4158_a_20_2 j)) → (w4158_b_20_1 0 = lsI (fun q : Nat => ((fa 10 0) (9 * ((n2 q).toInt).toNat + 4)).toInt64) ((x4158_3 : Int32).toInt).toNat ∧ w4158_b_20_0 0 = lsI (fun q : Nat => ((fa 10 0) (9 * ((n2 q).toInt).toNat + 3)).toInt64) ((x4158_3 : Int32).toInt).toNat ∧ w4158_b_20_1 1 = 0 ∧ w4158_b_20_0 1 = 0) → (x4158_3 : Int32).toInt ≤ (r1 : Int32).toInt → 12 - x4158_3.toInt < (nn4159 : Int) → ∀ (H : Heap) (locs : List Loc), ∀ (ls : Array Slot), va_P (dC, dI) classes (WX h g ca iv lv (u2 (u2 fa 2 2 n2) 20 2 w4158_a_20_2) (u2 (u2 la 20 0 w4158_b_20_0) 20 1 w4158_b_20_1)) H → va_D A (WX h g ca iv lv (u2 (u2 fa 2 2 n2) 20 2 w4158_a_20_2) (u2 (u2 la 20 0 w4158_b_20_0) 20 1 w4158_b_20_1)) → va_S A s.heap H locs → lv_has ls 4 [(3, .int x4158_3), (2, .int r1), (0, .ref (g 11 6)), (1, .int a)] → W p l e ({ frames := 15, cells := 0, slots := 0, locals := 388 } : Room) s m ([.ref (g 11 6), .int a] : List Value).toArray below meth c H locs 0 0 (MQ below (va_Qi (fun r (u : SS) => ∃ (na_2_2 : Nat → Int32) (na_20_2 : Nat → Int32) (nb_20_0 : Nat → Int64) (nb_20_1 : Nat → Int64) (ni_2_6 : Int32) (ni_2_7 : Int32), (∀ j, inb (bA 2 2 j) (na_2_2 j)) ∧ (∀ pt : Int32, pt.toInt = (iv 2 5).toInt → NeR (neX (fa 10 0) (iv 2 3).toInt (iv 2 4).toInt ((iv 10 1).toInt).toNat pt a) (lsP (cxP (fa 10 0) (iv 2 3).toInt (iv 2 4).toInt 0) ((iv 10 1).toInt).toNat).length r.toInt) ∧ ((-1) ≤ r.toInt ∧ r.toInt ≤ 12) ∧ u = ((u2 (u2 iv 2 6 ni_2_6) 2 7 ni_2_7), lv, (u2 (u2 fa 2 2 na_2_2) 20 2 na_20_2), (u2 (u2 la 20 0 nb_20_0) 20 1 nb_20_1))) (bX (dC, dI) h g ca A) A) ([.ref (g 11 6), .int a] : List Value).toArray s 0 0 A) (F0 m 15 ls []) := by
    intro nn4159
    induction nn4159 with
    | zero => intro x4158_3 w4158_a_20_2 w4158_b_20_0 w4158_b_20_1 hx4158_3 hw4158_a_20_2 hq4159_0 hq4159_1 hm4159; exfalso; omega
    | succ nn4159 ih4159 =>
      intro x4158_3 w4158_a_20_2 w4158_b_20_0 w4158_b_20_1 hx4158_3 hw4158_a_20_2 hq4159_0 hq4159_1 hm4159 H locs ls hP hD hS hl
      refine lv_iload_n hx hb dX2_fewest_15 rfl (lv_at hl 0 rfl) ?_
      refine lv_iload_n hx hb dX2_fewest_16 rfl (lv_at hl 1 rfl) ?_
      refine lv_icmp_ge (tgt := 37) hx hb dX2_fewest_17 (by decide) (fun c4160 => ?_) (fun c4160 => ?_)
      · have fc4160 := z_le (rfl : (r1).toInt = _) (rfl : (x4158_3).toInt = _) c4160
        refine lv_iconst (v := 2) hx hb dX2_fewest_37 (by decide) ?_
        refine lv_istore_n (lv' := [(3, .int 2), (2, .int r1), (0, .ref (g 11 6)), (1, .int a)]) hx hb dX2_fewest_38 rfl hl (by decide) rfl (fun ls hl => ?_)
        have lp4891 : ∀ (nn4891 : Nat) (x4890_3 : Int32) (w4890_i_2_6 : Int32) (w4890_i_2_7 : Int32) (w4890_a_20_2 : Nat → Int32) (w4890_b_20_0 : Nat → Int64) (w4890_b_20_1 : Nat → Int64), 2 ≤ x4890_3.toInt ∧ x4890_3.toInt ≤ 13 → (∀ j, inb (bA 20 2 j) (w4890_a_20_2 j)) → (w4890_b_20_1 0 = lsI (fun q : Nat => ((fa 10 0) (9 * ((n2 q).toInt).toNat + 4)).toInt64) ((r1 : Int32).toInt).toNat ∧ w4890_b_20_0 0 = lsI (fun q : Nat => ((fa 10 0) (9 * ((n2 q).toInt).toNat + 3)).toInt64) ((r1 : Int32).toInt).toNat ∧ w4890_b_20_1 1 = 0 ∧ w4890_b_20_0 1 = 0) → (∀ pt : Int32, pt.toInt = (iv 2 5).toInt → ∀ z : Nat, 2 ≤ z → (z : Int) < (x4890_3 : Int32).toInt → ¬ enX (fun q : Nat => ((fa 10 0) (9 * ((n2 q).toInt).toNat + 4)).toInt64) (fun q : Nat => ((fa 10 0) (9 * ((n2 q).toInt).toNat + 3)).toInt64) ((r1 : Int32).toInt).toNat (lsI (fun q : Nat => ((fa 10 0) (9 * ((n2 q).toInt).toNat + 4)).toInt64) ((r1 : Int32).toInt).toNat) (lsI (fun q : Nat => ((fa 10 0) (9 * ((n2 q).toInt).toNat + 3)).toInt64) ((r1 : Int32).toInt).toNat) pt a z) → 2 ≤ (x4890_3 : Int32).toInt → 13 - (x4890_3 : Int32).toInt < (nn4891 : Int) → ∀ (H : Heap) (locs : List Loc), ∀ (ls : Array Slot), va_P (dC, dI) classes (WX h g ca (u2 (u2 iv 2 6 w4890_i_2_6) 2 7 w4890_i_2_7) lv (u2 (u2 fa 2 2 n2) 20 2 w4890_a_20_2) (u2 (u2 la 20 0 w4890_b_20_0) 20 1 w4890_b_20_1)) H → va_D A (WX h g ca (u2 (u2 iv 2 6 w4890_i_2_6) 2 7 w4890_i_2_7) lv (u2 (u2 fa 2 2 n2) 20 2 w4890_a_20_2) (u2 (u2 la 20 0 w4890_b_20_0) 20 1 w4890_b_20_1)) → va_S A s.heap H locs → lv_has ls 4 [(3, .int x4890_3), (2, .int r1), (0, .ref (g 11 6)), (1, .int a)] → W p l e ({ frames := 15, cells := 0, slots := 0, locals := 388 } : Room) s m ([.ref (g 11 6), .int a] : List Value).toArray below meth c H locs 0 0 (MQ below (va_Qi (fun r (u : SS) => ∃ (na_2_2 : Nat → Int32) (na_20_2 : Nat → Int32) (nb_20_0 : Nat → Int64) (nb_20_1 : Nat → Int64) (ni_2_6 : Int32) (ni_2_7 : Int32), (∀ j, inb (bA 2 2 j) (na_2_2 j)) ∧ (∀ pt : Int32, pt.toInt = (iv 2 5).toInt → NeR (neX (fa 10 0) (iv 2 3).toInt (iv 2 4).toInt ((iv 10 1).toInt).toNat pt a) (lsP (cxP (fa 10 0) (iv 2 3).toInt (iv 2 4).toInt 0) ((iv 10 1).toInt).toNat).length r.toInt) ∧ ((-1) ≤ r.toInt ∧ r.toInt ≤ 12) ∧ u = ((u2 (u2 iv 2 6 ni_2_6) 2 7 ni_2_7), lv, (u2 (u2 fa 2 2 na_2_2) 20 2 na_20_2), (u2 (u2 la 20 0 nb_20_0) 20 1 nb_20_1))) (bX (dC, dI) h g ca A) A) ([.ref (g 11 6), .int a] : List Value).toArray s 0 0 A) (F0 m 39 ls []) := by
          intro nn4891
          induction nn4891 with
          | zero => intro x4890_3 w4890_i_2_6 w4890_i_2_7 w4890_a_20_2 w4890_b_20_0 w4890_b_20_1 hx4890_3 hw4890_a_20_2 hq4891_0 hq4891_1 hq4891_2 hm4891; exfalso; omega
          | succ nn4891 ih4891 =>
            intro x4890_3 w4890_i_2_6 w4890_i_2_7 w4890_a_20_2 w4890_b_20_0 w4890_b_20_1 hx4890_3 hw4890_a_20_2 hq4891_0 hq4891_1 hq4891_2 hm4891 H locs ls hP hD hS hl
            refine lv_iload_n hx hb dX2_fewest_39 rfl (lv_at hl 0 rfl) ?_
            refine lv_iload_n hx hb dX2_fewest_40 rfl (lv_at hl 1 rfl) ?_
            refine lv_icmp_gt (tgt := 85) hx hb dX2_fewest_41 (by decide) (fun c4892 => ?_) (fun c4892 => ?_)
            · have fc4892 := z_lt (rfl : (r1).toInt = _) (rfl : (x4890_3).toInt = _) c4892
              refine lv_iconst (v := (-1)) hx hb dX2_fewest_85 (by decide) ?_
              have : ((-1) : Int32).toInt = (-1) := (by decide)
              have hP9 : va_P (dC, dI) classes (WX h g ca (u2 (u2 iv 2 6 w4890_i_2_6) 2 7 w4890_i_2_7) lv (u2 (u2 fa 2 2 n2) 20 2 w4890_a_20_2) (u2 (u2 la 20 0 w4890_b_20_0) 20 1 w4890_b_20_1)) H := hP
              have hD9 : va_D A (WX h g ca (u2 (u2 iv 2 6 w4890_i_2_6) 2 7 w4890_i_2_7) lv (u2 (u2 fa 2 2 n2) 20 2 w4890_a_20_2) (u2 (u2 la 20 0 w4890_b_20_0) 20 1 w4890_b_20_1)) := hD
              exact W.iret (v := (-1)) hx hb hr (fun t ht9 hW => ⟨⟨(-1), ((u2 (u2 iv 2 6 w4890_i_2_6) 2 7 w4890_i_2_7), lv, (u2 (u2 fa 2 2 n2) 20 2 w4890_a_20_2), (u2 (u2 la 20 0 w4890_b_20_0) 20 1 w4890_b_20_1)), rfl, ⟨n2, w4890_a_20_2, w4890_b_20_0, w4890_b_20_1, w4890_i_2_6, w4890_i_2_7, hn2, (show ∀ pt : Int32, pt.toInt = (iv 2 5).toInt → NeR (neX (fa 10 0) (iv 2 3).toInt (iv 2 4).toInt ((iv 10 1).toInt).toNat pt a) (lsP (cxP (fa 10 0) (iv 2 3).toInt (iv 2 4).toInt 0) ((iv 10 1).toInt).toNat).length ((-1) : Int32).toInt from (fun pt hpt => by
                    have hl9 := xr1_0
                    have ha9 := xr1_1
                    rw [show (0 : Int32).toInt = 0 from by decide] at hl9 ha9
                    have hn9 : ((r1 : Int32).toInt).toNat = (lsP (cxP (fa 10 0) (iv 2 3).toInt (iv 2 4).toInt 0) ((iv 10 1).toInt).toNat).length := by omega
                    refine NeR_cg (ne_cl ha9) ?_
                    rw [← hn9]
                    exact Or.inr ⟨fun z h1 h2 => hq4891_1 pt hpt z h1 (by omega), by omega⟩)), ⟨by decide, by decide⟩, rfl⟩, by rw [ht9]; exact hP9, hD9⟩, hS.F ht9⟩) hS.2.2 dX2_fewest_86
            · have fc4892 := z_nlt (rfl : (r1).toInt = _) (rfl : (x4890_3).toInt = _) c4892
              refine lv_aload_n hx hb dX2_fewest_44 rfl (lv_at hl 2 rfl) ?_
              refine lv_iconst (v := 0) hx hb dX2_fewest_45 (by decide) ?_
              refine pX_2_6 (v := 0) hx hb ht hown hK hP hD hS m_310 dX2_fewest_46 (fun H locs hP hD hS => ?_)
              have hP : va_P (dC, dI) classes (WX h g ca (u2 (u2 iv 2 6 0) 2 7 w4890_i_2_7) lv (u2 (u2 fa 2 2 n2) 20 2 w4890_a_20_2) (u2 (u2 la 20 0 w4890_b_20_0) 20 1 w4890_b_20_1)) H := hP
              have hD : va_D A (WX h g ca (u2 (u2 iv 2 6 0) 2 7 w4890_i_2_7) lv (u2 (u2 fa 2 2 n2) 20 2 w4890_a_20_2) (u2 (u2 la 20 0 w4890_b_20_0) 20 1 w4890_b_20_1)) := hD
              refine lv_aload_n hx hb dX2_fewest_49 rfl (lv_at hl 2 rfl) ?_
              refine lv_iconst (v := 0) hx hb dX2_fewest_50 (by decide) ?_
              refine pX_2_7 (v := 0) hx hb ht hown hK hP hD hS m_311 dX2_fewest_51 (fun H locs hP hD hS => ?_)
              have hP : va_P (dC, dI) classes (WX h g ca (u2 (u2 iv 2 6 0) 2 7 0) lv (u2 (u2 fa 2 2 n2) 20 2 w4890_a_20_2) (u2 (u2 la 20 0 w4890_b_20_0) 20 1 w4890_b_20_1)) H := hP
              have hD : va_D A (WX h g ca (u2 (u2 iv 2 6 0) 2 7 0) lv (u2 (u2 fa 2 2 n2) 20 2 w4890_a_20_2) (u2 (u2 la 20 0 w4890_b_20_0) 20 1 w4890_b_20_1)) := hD
              refine lv_aload_n hx hb dX2_fewest_54 rfl (lv_at hl 2 rfl) ?_
              refine lv_iload_n hx hb dX2_fewest_55 rfl (lv_at hl 0 rfl) ?_
              refine lv_iconst (v := 0) hx hb dX2_fewest_56 (by decide) ?_
              refine lv_iload_n hx hb dX2_fewest_57 rfl (lv_at hl 1 rfl) ?_
              rcases (by omega : (x4890_3 : Int32).toInt = 2 ∨ (x4890_3 : Int32).toInt = 3 ∨ (x4890_3 : Int32).toInt = 4 ∨ (x4890_3 : Int32).toInt = 5 ∨ (x4890_3 : Int32).toInt = 6 ∨ (x4890_3 : Int32).toInt = 7 ∨ (x4890_3 : Int32).toInt = 8 ∨ (x4890_3 : Int32).toInt = 9 ∨ (x4890_3 : Int32).toInt = 10 ∨ (x4890_3 : Int32).toInt = 11 ∨ (x4890_3 : Int32).toInt = 12) with q4893 | q4893 | q4893 | q4893 | q4893 | q4893 | q4893 | q4893 | q4893 | q4893 | q4893
              · obtain rfl : x4890_3 = 2 := z_of (by decide) q4893
                have : (2 : Int32).toInt = 2 := by decide
                have hFc := free_all hD hS hA
                refine va_callv (va_runV (As := [.int 2, .int 0, .int r1]) (rest := []) ⟨hx, hb, hml, hown, ht⟩ (c_X2_takeSome_w2 l dC dI H.size h g ca (u2 (u2 iv 2 6 0) 2 7 0) lv (u2 (u2 fa 2 2 n2) 20 2 w4890_a_20_2) (u2 (u2 la 20 0 w4890_b_20_0) 20 1 w4890_b_20_1) (IX_a (c := 20) (k := 2) (IX_a (c := 2) (k := 2) (IX_i (c := 2) (k := 7) (IX_i (c := 2) (k := 6) hI (full_i _)) (full_i _)) hn2) hw4890_a_20_2) 0 r1 ⟨by decide, by decide⟩ ⟨by omega, by omega⟩) (kV 3 ht m_933 m_935 m_38 m_85 m_936 rfl rfl hd_X2_takeSome_v ⟨Nat.le_of_ble_eq_true rfl, Nat.le_of_ble_eq_true rfl⟩) (vW hP hK hD (rX_2 hK hP)) rfl rfl hl.1 rfl (lv_room (Nat.le_of_ble_eq_true rfl)) dX2_fewest_58 ⟨Nat.le_of_ble_eq_true rfl, Nat.le_of_ble_eq_true rfl⟩) hS (fun q _ h => hFc q h) hFc (fun u t H1 locs ht9 hvm hr4894 hB hz1 hk1 hS => ?_)
                obtain ⟨n4895, n4896, n4897, n4898, n4899, xr4894_0, xr4894_1, rfl⟩ := hr4894
                have hn4895 : ∀ j, inb (bA 20 2 j) (n4895 j) := fun j => full_i _
                obtain ⟨hP, hD⟩ := hB
                rw [ht9] at hP
                generalize H1 = H at hP hS ⊢
                have hP : va_P (dC, dI) classes (WX h g ca (u2 (u2 iv 2 6 n4898) 2 7 n4899) lv (u2 (u2 fa 2 2 n2) 20 2 n4895) (u2 (u2 la 20 0 n4896) 20 1 n4897)) H := hP
                have hD : va_D A (WX h g ca (u2 (u2 iv 2 6 n4898) 2 7 n4899) lv (u2 (u2 fa 2 2 n2) 20 2 n4895) (u2 (u2 la 20 0 n4896) 20 1 n4897)) := (show va_D _ (WX h g ca (u2 (u2 iv 2 6 n4898) 2 7 n4899) lv (u2 (u2 fa 2 2 n2) 20 2 n4895) (u2 (u2 la 20 0 n4896) 20 1 n4897)) from hD).weaken (fun _ _ _ h => hFc _ h)
                have xr4894_0 : ∀ j : Nat, j < 2 → n4896 j = w4890_b_20_0 j ∧ n4897 j = w4890_b_20_1 j := xr4894_0
                have xr4894_1 : ∀ (pt : Int32) (w0 f0 : Nat), pt.toInt = ((iv 2 5) : Int32).toInt → (0 : Int32).toInt = (oN w0).toInt → (0 : Int32).toInt = (oN f0).toInt → (n4898 : Int32).toInt = (oN (w0 + nT nO (fun q : Nat => ((fa 10 0) (9 * ((n2 q).toInt).toNat + 4)).toInt64) (fun q : Nat => ((fa 10 0) (9 * ((n2 q).toInt).toNat + 3)).toInt64) (((r1 : Int32).toInt).toNat - ((0 : Int32).toInt).toNat) ((0 : Int32).toInt).toNat 2 (w4890_b_20_1 1) (w4890_b_20_0 1))).toInt ∧ (n4899 : Int32).toInt = (oN (f0 + nT (nF (w4890_b_20_1 0) (w4890_b_20_0 0) pt) (fun q : Nat => ((fa 10 0) (9 * ((n2 q).toInt).toNat + 4)).toInt64) (fun q : Nat => ((fa 10 0) (9 * ((n2 q).toInt).toNat + 3)).toInt64) (((r1 : Int32).toInt).toNat - ((0 : Int32).toInt).toNat) ((0 : Int32).toInt).toNat 2 (w4890_b_20_1 1) (w4890_b_20_0 1))).toInt := xr4894_1
                refine lv_bipush (v := 100) hx hb dX2_fewest_61 (by decide) ?_
                refine lv_aload_n hx hb dX2_fewest_63 rfl (lv_at hl 2 rfl) ?_
                refine gX_2_7 hx hb ht hown hK hP m_311 (v := n4899) rfl dX2_fewest_64 ?_
                refine lv_imul hx hb dX2_fewest_67 ?_
                refine lv_topi (fun v4900 ev4900 => ?_)
                refine lv_iload_n hx hb dX2_fewest_68 rfl (lv_at hl 3 rfl) ?_
                refine lv_aload_n hx hb dX2_fewest_69 rfl (lv_at hl 2 rfl) ?_
                refine gX_2_6 hx hb ht hown hK hP m_310 (v := n4898) rfl dX2_fewest_70 ?_
                refine lv_imul hx hb dX2_fewest_73 ?_
                refine lv_topi (fun v4901 ev4901 => ?_)
                refine lv_icmp_gt (tgt := 79) hx hb dX2_fewest_74 (by decide) (fun c4902 => ?_) (fun c4902 => ?_)
                · have fc4902 := z_lt (rfl : (v4901).toInt = _) (rfl : (v4900).toInt = _) c4902
                  refine lv_iinc (v := 3) (lv' := [(3, .int 3), (2, .int r1), (0, .ref (g 11 6)), (1, .int a)]) hx hb dX2_fewest_79 hl (k := 0) rfl (by decide) (by decide) rfl (fun ls hl => ?_)
                  refine lv_goto (tgt := 39) hx hb dX2_fewest_82 (by decide) ?_
                  have : (3 : Int32).toInt = 3 := (by decide)
                  exact ih4891 3 n4898 n4899 n4895 n4896 n4897 ⟨by decide, by decide⟩ hn4895 (show n4897 0 = lsI (fun q : Nat => ((fa 10 0) (9 * ((n2 q).toInt).toNat + 4)).toInt64) ((r1 : Int32).toInt).toNat ∧ n4896 0 = lsI (fun q : Nat => ((fa 10 0) (9 * ((n2 q).toInt).toNat + 3)).toInt64) ((r1 : Int32).toInt).toNat ∧ n4897 1 = 0 ∧ n4896 1 = 0 from (by have k0 := xr4894_0 0 (by decide); have k1 := xr4894_0 1 (by decide); rw [k0.1, k0.2, k1.1, k1.2]; exact hq4891_0)) (show ∀ pt : Int32, pt.toInt = (iv 2 5).toInt → ∀ z : Nat, 2 ≤ z → (z : Int) < (3 : Int32).toInt → ¬ enX (fun q : Nat => ((fa 10 0) (9 * ((n2 q).toInt).toNat + 4)).toInt64) (fun q : Nat => ((fa 10 0) (9 * ((n2 q).toInt).toNat + 3)).toInt64) ((r1 : Int32).toInt).toNat (lsI (fun q : Nat => ((fa 10 0) (9 * ((n2 q).toInt).toNat + 4)).toInt64) ((r1 : Int32).toInt).toNat) (lsI (fun q : Nat => ((fa 10 0) (9 * ((n2 q).toInt).toNat + 3)).toInt64) ((r1 : Int32).toInt).toNat) pt a z from (fun pt hpt z h1 h2 => by
                        have hp9 := xr4894_1 pt 0 0 hpt (by decide) (by decide)
                        have hq9 := hq4891_0
                        rw [show ((0 : Int32).toInt).toNat = 0 from by decide, Nat.sub_zero, Nat.zero_add, Nat.zero_add, hq9.1, hq9.2.1, hq9.2.2.1, hq9.2.2.2] at hp9
                        have hw9 := Int32.toInt_inj.mp hp9.1
                        have hf9 := Int32.toInt_inj.mp hp9.2
                        have hE9 : enX (fun q : Nat => ((fa 10 0) (9 * ((n2 q).toInt).toNat + 4)).toInt64) (fun q : Nat => ((fa 10 0) (9 * ((n2 q).toInt).toNat + 3)).toInt64) ((r1 : Int32).toInt).toNat (lsI (fun q : Nat => ((fa 10 0) (9 * ((n2 q).toInt).toNat + 4)).toInt64) ((r1 : Int32).toInt).toNat) (lsI (fun q : Nat => ((fa 10 0) (9 * ((n2 q).toInt).toNat + 3)).toInt64) ((r1 : Int32).toInt).toNat) pt a 2 ↔ (v4900 : Int32).toInt ≤ (v4901 : Int32).toInt := by
                          unfold enX
                          rw [ev4900, ev4901, hw9, hf9]
                        by_cases hz : z = 2
                        · rw [hz]; exact fun y => absurd (hE9.mp y) (by omega)
                        · exact hq4891_1 pt hpt z h1 (by omega))) (show 2 ≤ (3 : Int32).toInt from by omega) (by omega) _ _ ls hP hD hS (lv_sub hl [0, 1, 2, 3] rfl)
                · have fc4902 := z_nlt (rfl : (v4901).toInt = _) (rfl : (v4900).toInt = _) c4902
                  refine lv_iload_n hx hb dX2_fewest_77 rfl (lv_at hl 0 rfl) ?_
                  have : (2 : Int32).toInt = 2 := (by decide)
                  have hP9 : va_P (dC, dI) classes (WX h g ca (u2 (u2 iv 2 6 n4898) 2 7 n4899) lv (u2 (u2 fa 2 2 n2) 20 2 n4895) (u2 (u2 la 20 0 n4896) 20 1 n4897)) H := hP
                  have hD9 : va_D A (WX h g ca (u2 (u2 iv 2 6 n4898) 2 7 n4899) lv (u2 (u2 fa 2 2 n2) 20 2 n4895) (u2 (u2 la 20 0 n4896) 20 1 n4897)) := hD
                  exact W.iret (v := 2) hx hb hr (fun t ht9 hW => ⟨⟨2, ((u2 (u2 iv 2 6 n4898) 2 7 n4899), lv, (u2 (u2 fa 2 2 n2) 20 2 n4895), (u2 (u2 la 20 0 n4896) 20 1 n4897)), rfl, ⟨n2, n4895, n4896, n4897, n4898, n4899, hn2, (show ∀ pt : Int32, pt.toInt = (iv 2 5).toInt → NeR (neX (fa 10 0) (iv 2 3).toInt (iv 2 4).toInt ((iv 10 1).toInt).toNat pt a) (lsP (cxP (fa 10 0) (iv 2 3).toInt (iv 2 4).toInt 0) ((iv 10 1).toInt).toNat).length (2 : Int32).toInt from (fun pt hpt => by
                        have hl9 := xr1_0
                        have ha9 := xr1_1
                        rw [show (0 : Int32).toInt = 0 from by decide] at hl9 ha9
                        have hn9 : ((r1 : Int32).toInt).toNat = (lsP (cxP (fa 10 0) (iv 2 3).toInt (iv 2 4).toInt 0) ((iv 10 1).toInt).toNat).length := by omega
                        have hp9 := xr4894_1 pt 0 0 hpt (by decide) (by decide)
                        have hq9 := hq4891_0
                        rw [show ((0 : Int32).toInt).toNat = 0 from by decide, Nat.sub_zero, Nat.zero_add, Nat.zero_add, hq9.1, hq9.2.1, hq9.2.2.1, hq9.2.2.2] at hp9
                        have hw9 := Int32.toInt_inj.mp hp9.1
                        have hf9 := Int32.toInt_inj.mp hp9.2
                        have hE9 : enX (fun q : Nat => ((fa 10 0) (9 * ((n2 q).toInt).toNat + 4)).toInt64) (fun q : Nat => ((fa 10 0) (9 * ((n2 q).toInt).toNat + 3)).toInt64) ((r1 : Int32).toInt).toNat (lsI (fun q : Nat => ((fa 10 0) (9 * ((n2 q).toInt).toNat + 4)).toInt64) ((r1 : Int32).toInt).toNat) (lsI (fun q : Nat => ((fa 10 0) (9 * ((n2 q).toInt).toNat + 3)).toInt64) ((r1 : Int32).toInt).toNat) pt a 2 ↔ (v4900 : Int32).toInt ≤ (v4901 : Int32).toInt := by
                          unfold enX
                          rw [ev4900, ev4901, hw9, hf9]
                        refine NeR_cg (ne_cl ha9) ?_
                        rw [← hn9]
                        exact Or.inl ⟨2, by decide, by omega, hE9.mpr (by omega), fun z h1 h2 => hq4891_1 pt hpt z h1 (by omega), by omega⟩)), ⟨by decide, by decide⟩, rfl⟩, by rw [ht9]; exact hP9, hD9⟩, hS.F ht9⟩) hS.2.2 dX2_fewest_78
              · obtain rfl : x4890_3 = 3 := z_of (by decide) q4893
                have : (3 : Int32).toInt = 3 := by decide
                have hFc := free_all hD hS hA
                refine va_callv (va_runV (As := [.int 3, .int 0, .int r1]) (rest := []) ⟨hx, hb, hml, hown, ht⟩ (c_X2_takeSome_w3 l dC dI H.size h g ca (u2 (u2 iv 2 6 0) 2 7 0) lv (u2 (u2 fa 2 2 n2) 20 2 w4890_a_20_2) (u2 (u2 la 20 0 w4890_b_20_0) 20 1 w4890_b_20_1) (IX_a (c := 20) (k := 2) (IX_a (c := 2) (k := 2) (IX_i (c := 2) (k := 7) (IX_i (c := 2) (k := 6) hI (full_i _)) (full_i _)) hn2) hw4890_a_20_2) 0 r1 ⟨by decide, by decide⟩ ⟨by omega, by omega⟩) (kV 3 ht m_933 m_935 m_38 m_85 m_936 rfl rfl hd_X2_takeSome_v ⟨Nat.le_of_ble_eq_true rfl, Nat.le_of_ble_eq_true rfl⟩) (vW hP hK hD (rX_2 hK hP)) rfl rfl hl.1 rfl (lv_room (Nat.le_of_ble_eq_true rfl)) dX2_fewest_58 ⟨Nat.le_of_ble_eq_true rfl, Nat.le_of_ble_eq_true rfl⟩) hS (fun q _ h => hFc q h) hFc (fun u t H1 locs ht9 hvm hr4903 hB hz1 hk1 hS => ?_)
                obtain ⟨n4904, n4905, n4906, n4907, n4908, xr4903_0, xr4903_1, rfl⟩ := hr4903
                have hn4904 : ∀ j, inb (bA 20 2 j) (n4904 j) := fun j => full_i _
                obtain ⟨hP, hD⟩ := hB
                rw [ht9] at hP
                generalize H1 = H at hP hS ⊢
                have hP : va_P (dC, dI) classes (WX h g ca (u2 (u2 iv 2 6 n4907) 2 7 n4908) lv (u2 (u2 fa 2 2 n2) 20 2 n4904) (u2 (u2 la 20 0 n4905) 20 1 n4906)) H := hP
                have hD : va_D A (WX h g ca (u2 (u2 iv 2 6 n4907) 2 7 n4908) lv (u2 (u2 fa 2 2 n2) 20 2 n4904) (u2 (u2 la 20 0 n4905) 20 1 n4906)) := (show va_D _ (WX h g ca (u2 (u2 iv 2 6 n4907) 2 7 n4908) lv (u2 (u2 fa 2 2 n2) 20 2 n4904) (u2 (u2 la 20 0 n4905) 20 1 n4906)) from hD).weaken (fun _ _ _ h => hFc _ h)
                have xr4903_0 : ∀ j : Nat, j < 2 → n4905 j = w4890_b_20_0 j ∧ n4906 j = w4890_b_20_1 j := xr4903_0
                have xr4903_1 : ∀ (pt : Int32) (w0 f0 : Nat), pt.toInt = ((iv 2 5) : Int32).toInt → (0 : Int32).toInt = (oN w0).toInt → (0 : Int32).toInt = (oN f0).toInt → (n4907 : Int32).toInt = (oN (w0 + nT nO (fun q : Nat => ((fa 10 0) (9 * ((n2 q).toInt).toNat + 4)).toInt64) (fun q : Nat => ((fa 10 0) (9 * ((n2 q).toInt).toNat + 3)).toInt64) (((r1 : Int32).toInt).toNat - ((0 : Int32).toInt).toNat) ((0 : Int32).toInt).toNat 3 (w4890_b_20_1 1) (w4890_b_20_0 1))).toInt ∧ (n4908 : Int32).toInt = (oN (f0 + nT (nF (w4890_b_20_1 0) (w4890_b_20_0 0) pt) (fun q : Nat => ((fa 10 0) (9 * ((n2 q).toInt).toNat + 4)).toInt64) (fun q : Nat => ((fa 10 0) (9 * ((n2 q).toInt).toNat + 3)).toInt64) (((r1 : Int32).toInt).toNat - ((0 : Int32).toInt).toNat) ((0 : Int32).toInt).toNat 3 (w4890_b_20_1 1) (w4890_b_20_0 1))).toInt := xr4903_1
                refine lv_bipush (v := 100) hx hb dX2_fewest_61 (by decide) ?_
                refine lv_aload_n hx hb dX2_fewest_63 rfl (lv_at hl 2 rfl) ?_
                refine gX_2_7 hx hb ht hown hK hP m_311 (v := n4908) rfl dX2_fewest_64 ?_
                refine lv_imul hx hb dX2_fewest_67 ?_
                refine lv_topi (fun v4909 ev4909 => ?_)
                refine lv_iload_n hx hb dX2_fewest_68 rfl (lv_at hl 3 rfl) ?_
                refine lv_aload_n hx hb dX2_fewest_69 rfl (lv_at hl 2 rfl) ?_
                refine gX_2_6 hx hb ht hown hK hP m_310 (v := n4907) rfl dX2_fewest_70 ?_
                refine lv_imul hx hb dX2_fewest_73 ?_
                refine lv_topi (fun v4910 ev4910 => ?_)
                refine lv_icmp_gt (tgt := 79) hx hb dX2_fewest_74 (by decide) (fun c4911 => ?_) (fun c4911 => ?_)
                · have fc4911 := z_lt (rfl : (v4910).toInt = _) (rfl : (v4909).toInt = _) c4911
                  refine lv_iinc (v := 4) (lv' := [(3, .int 4), (2, .int r1), (0, .ref (g 11 6)), (1, .int a)]) hx hb dX2_fewest_79 hl (k := 0) rfl (by decide) (by decide) rfl (fun ls hl => ?_)
                  refine lv_goto (tgt := 39) hx hb dX2_fewest_82 (by decide) ?_
                  have : (4 : Int32).toInt = 4 := (by decide)
                  exact ih4891 4 n4907 n4908 n4904 n4905 n4906 ⟨by decide, by decide⟩ hn4904 (show n4906 0 = lsI (fun q : Nat => ((fa 10 0) (9 * ((n2 q).toInt).toNat + 4)).toInt64) ((r1 : Int32).toInt).toNat ∧ n4905 0 = lsI (fun q : Nat => ((fa 10 0) (9 * ((n2 q).toInt).toNat + 3)).toInt64) ((r1 : Int32).toInt).toNat ∧ n4906 1 = 0 ∧ n4905 1 = 0 from (by have k0 := xr4903_0 0 (by decide); have k1 := xr4903_0 1 (by decide); rw [k0.1, k0.2, k1.1, k1.2]; exact hq4891_0)) (show ∀ pt : Int32, pt.toInt = (iv 2 5).toInt → ∀ z : Nat, 2 ≤ z → (z : Int) < (4 : Int32).toInt → ¬ enX (fun q : Nat => ((fa 10 0) (9 * ((n2 q).toInt).toNat + 4)).toInt64) (fun q : Nat => ((fa 10 0) (9 * ((n2 q).toInt).toNat + 3)).toInt64) ((r1 : Int32).toInt).toNat (lsI (fun q : Nat => ((fa 10 0) (9 * ((n2 q).toInt).toNat + 4)).toInt64) ((r1 : Int32).toInt).toNat) (lsI (fun q : Nat => ((fa 10 0) (9 * ((n2 q).toInt).toNat + 3)).toInt64) ((r1 : Int32).toInt).toNat) pt a z from (fun pt hpt z h1 h2 => by
                        have hp9 := xr4903_1 pt 0 0 hpt (by decide) (by decide)
                        have hq9 := hq4891_0
                        rw [show ((0 : Int32).toInt).toNat = 0 from by decide, Nat.sub_zero, Nat.zero_add, Nat.zero_add, hq9.1, hq9.2.1, hq9.2.2.1, hq9.2.2.2] at hp9
                        have hw9 := Int32.toInt_inj.mp hp9.1
                        have hf9 := Int32.toInt_inj.mp hp9.2
                        have hE9 : enX (fun q : Nat => ((fa 10 0) (9 * ((n2 q).toInt).toNat + 4)).toInt64) (fun q : Nat => ((fa 10 0) (9 * ((n2 q).toInt).toNat + 3)).toInt64) ((r1 : Int32).toInt).toNat (lsI (fun q : Nat => ((fa 10 0) (9 * ((n2 q).toInt).toNat + 4)).toInt64) ((r1 : Int32).toInt).toNat) (lsI (fun q : Nat => ((fa 10 0) (9 * ((n2 q).toInt).toNat + 3)).toInt64) ((r1 : Int32).toInt).toNat) pt a 3 ↔ (v4909 : Int32).toInt ≤ (v4910 : Int32).toInt := by
                          unfold enX
                          rw [ev4909, ev4910, hw9, hf9]
                        by_cases hz : z = 3
                        · rw [hz]; exact fun y => absurd (hE9.mp y) (by omega)
                        · exact hq4891_1 pt hpt z h1 (by omega))) (show 2 ≤ (4 : Int32).toInt from by omega) (by omega) _ _ ls hP hD hS (lv_sub hl [0, 1, 2, 3] rfl)
                · have fc4911 := z_nlt (rfl : (v4910).toInt = _) (rfl : (v4909).toInt = _) c4911
                  refine lv_iload_n hx hb dX2_fewest_77 rfl (lv_at hl 0 rfl) ?_
                  have : (3 : Int32).toInt = 3 := (by decide)
                  have hP9 : va_P (dC, dI) classes (WX h g ca (u2 (u2 iv 2 6 n4907) 2 7 n4908) lv (u2 (u2 fa 2 2 n2) 20 2 n4904) (u2 (u2 la 20 0 n4905) 20 1 n4906)) H := hP
                  have hD9 : va_D A (WX h g ca (u2 (u2 iv 2 6 n4907) 2 7 n4908) lv (u2 (u2 fa 2 2 n2) 20 2 n4904) (u2 (u2 la 20 0 n4905) 20 1 n4906)) := hD
                  exact W.iret (v := 3) hx hb hr (fun t ht9 hW => ⟨⟨3, ((u2 (u2 iv 2 6 n4907) 2 7 n4908), lv, (u2 (u2 fa 2 2 n2) 20 2 n4904), (u2 (u2 la 20 0 n4905) 20 1 n4906)), rfl, ⟨n2, n4904, n4905, n4906, n4907, n4908, hn2, (show ∀ pt : Int32, pt.toInt = (iv 2 5).toInt → NeR (neX (fa 10 0) (iv 2 3).toInt (iv 2 4).toInt ((iv 10 1).toInt).toNat pt a) (lsP (cxP (fa 10 0) (iv 2 3).toInt (iv 2 4).toInt 0) ((iv 10 1).toInt).toNat).length (3 : Int32).toInt from (fun pt hpt => by
                        have hl9 := xr1_0
                        have ha9 := xr1_1
                        rw [show (0 : Int32).toInt = 0 from by decide] at hl9 ha9
                        have hn9 : ((r1 : Int32).toInt).toNat = (lsP (cxP (fa 10 0) (iv 2 3).toInt (iv 2 4).toInt 0) ((iv 10 1).toInt).toNat).length := by omega
                        have hp9 := xr4903_1 pt 0 0 hpt (by decide) (by decide)
                        have hq9 := hq4891_0
                        rw [show ((0 : Int32).toInt).toNat = 0 from by decide, Nat.sub_zero, Nat.zero_add, Nat.zero_add, hq9.1, hq9.2.1, hq9.2.2.1, hq9.2.2.2] at hp9
                        have hw9 := Int32.toInt_inj.mp hp9.1
                        have hf9 := Int32.toInt_inj.mp hp9.2
                        have hE9 : enX (fun q : Nat => ((fa 10 0) (9 * ((n2 q).toInt).toNat + 4)).toInt64) (fun q : Nat => ((fa 10 0) (9 * ((n2 q).toInt).toNat + 3)).toInt64) ((r1 : Int32).toInt).toNat (lsI (fun q : Nat => ((fa 10 0) (9 * ((n2 q).toInt).toNat + 4)).toInt64) ((r1 : Int32).toInt).toNat) (lsI (fun q : Nat => ((fa 10 0) (9 * ((n2 q).toInt).toNat + 3)).toInt64) ((r1 : Int32).toInt).toNat) pt a 3 ↔ (v4909 : Int32).toInt ≤ (v4910 : Int32).toInt := by
                          unfold enX
                          rw [ev4909, ev4910, hw9, hf9]
                        refine NeR_cg (ne_cl ha9) ?_
                        rw [← hn9]
                        exact Or.inl ⟨3, by decide, by omega, hE9.mpr (by omega), fun z h1 h2 => hq4891_1 pt hpt z h1 (by omega), by omega⟩)), ⟨by decide, by decide⟩, rfl⟩, by rw [ht9]; exact hP9, hD9⟩, hS.F ht9⟩) hS.2.2 dX2_fewest_78
              · obtain rfl : x4890_3 = 4 := z_of (by decide) q4893
                have : (4 : Int32).toInt = 4 := by decide
                have hFc := free_all hD hS hA
                refine va_callv (va_runV (As := [.int 4, .int 0, .int r1]) (rest := []) ⟨hx, hb, hml, hown, ht⟩ (c_X2_takeSome_w4 l dC dI H.size h g ca (u2 (u2 iv 2 6 0) 2 7 0) lv (u2 (u2 fa 2 2 n2) 20 2 w4890_a_20_2) (u2 (u2 la 20 0 w4890_b_20_0) 20 1 w4890_b_20_1) (IX_a (c := 20) (k := 2) (IX_a (c := 2) (k := 2) (IX_i (c := 2) (k := 7) (IX_i (c := 2) (k := 6) hI (full_i _)) (full_i _)) hn2) hw4890_a_20_2) 0 r1 ⟨by decide, by decide⟩ ⟨by omega, by omega⟩) (kV 3 ht m_933 m_935 m_38 m_85 m_936 rfl rfl hd_X2_takeSome_v ⟨Nat.le_of_ble_eq_true rfl, Nat.le_of_ble_eq_true rfl⟩) (vW hP hK hD (rX_2 hK hP)) rfl rfl hl.1 rfl (lv_room (Nat.le_of_ble_eq_true rfl)) dX2_fewest_58 ⟨Nat.le_of_ble_eq_true rfl, Nat.le_of_ble_eq_true rfl⟩) hS (fun q _ h => hFc q h) hFc (fun u t H1 locs ht9 hvm hr4912 hB hz1 hk1 hS => ?_)
                obtain ⟨n4913, n4914, n4915, n4916, n4917, xr4912_0, xr4912_1, rfl⟩ := hr4912
                have hn4913 : ∀ j, inb (bA 20 2 j) (n4913 j) := fun j => full_i _
                obtain ⟨hP, hD⟩ := hB
                rw [ht9] at hP
                generalize H1 = H at hP hS ⊢
                have hP : va_P (dC, dI) classes (WX h g ca (u2 (u2 iv 2 6 n4916) 2 7 n4917) lv (u2 (u2 fa 2 2 n2) 20 2 n4913) (u2 (u2 la 20 0 n4914) 20 1 n4915)) H := hP
                have hD : va_D A (WX h g ca (u2 (u2 iv 2 6 n4916) 2 7 n4917) lv (u2 (u2 fa 2 2 n2) 20 2 n4913) (u2 (u2 la 20 0 n4914) 20 1 n4915)) := (show va_D _ (WX h g ca (u2 (u2 iv 2 6 n4916) 2 7 n4917) lv (u2 (u2 fa 2 2 n2) 20 2 n4913) (u2 (u2 la 20 0 n4914) 20 1 n4915)) from hD).weaken (fun _ _ _ h => hFc _ h)
                have xr4912_0 : ∀ j : Nat, j < 2 → n4914 j = w4890_b_20_0 j ∧ n4915 j = w4890_b_20_1 j := xr4912_0
                have xr4912_1 : ∀ (pt : Int32) (w0 f0 : Nat), pt.toInt = ((iv 2 5) : Int32).toInt → (0 : Int32).toInt = (oN w0).toInt → (0 : Int32).toInt = (oN f0).toInt → (n4916 : Int32).toInt = (oN (w0 + nT nO (fun q : Nat => ((fa 10 0) (9 * ((n2 q).toInt).toNat + 4)).toInt64) (fun q : Nat => ((fa 10 0) (9 * ((n2 q).toInt).toNat + 3)).toInt64) (((r1 : Int32).toInt).toNat - ((0 : Int32).toInt).toNat) ((0 : Int32).toInt).toNat 4 (w4890_b_20_1 1) (w4890_b_20_0 1))).toInt ∧ (n4917 : Int32).toInt = (oN (f0 + nT (nF (w4890_b_20_1 0) (w4890_b_20_0 0) pt) (fun q : Nat => ((fa 10 0) (9 * ((n2 q).toInt).toNat + 4)).toInt64) (fun q : Nat => ((fa 10 0) (9 * ((n2 q).toInt).toNat + 3)).toInt64) (((r1 : Int32).toInt).toNat - ((0 : Int32).toInt).toNat) ((0 : Int32).toInt).toNat 4 (w4890_b_20_1 1) (w4890_b_20_0 1))).toInt := xr4912_1
                refine lv_bipush (v := 100) hx hb dX2_fewest_61 (by decide) ?_
                refine lv_aload_n hx hb dX2_fewest_63 rfl (lv_at hl 2 rfl) ?_
                refine gX_2_7 hx hb ht hown hK hP m_311 (v := n4917) rfl dX2_fewest_64 ?_
                refine lv_imul hx hb dX2_fewest_67 ?_
                refine lv_topi (fun v4918 ev4918 => ?_)
                refine lv_iload_n hx hb dX2_fewest_68 rfl (lv_at hl 3 rfl) ?_
                refine lv_aload_n hx hb dX2_fewest_69 rfl (lv_at hl 2 rfl) ?_
                refine gX_2_6 hx hb ht hown hK hP m_310 (v := n4916) rfl dX2_fewest_70 ?_
                refine lv_imul hx hb dX2_fewest_73 ?_
                refine lv_topi (fun v4919 ev4919 => ?_)
                refine lv_icmp_gt (tgt := 79) hx hb dX2_fewest_74 (by decide) (fun c4920 => ?_) (fun c4920 => ?_)
                · have fc4920 := z_lt (rfl : (v4919).toInt = _) (rfl : (v4918).toInt = _) c4920
                  refine lv_iinc (v := 5) (lv' := [(3, .int 5), (2, .int r1), (0, .ref (g 11 6)), (1, .int a)]) hx hb dX2_fewest_79 hl (k := 0) rfl (by decide) (by decide) rfl (fun ls hl => ?_)
                  refine lv_goto (tgt := 39) hx hb dX2_fewest_82 (by decide) ?_
                  have : (5 : Int32).toInt = 5 := (by decide)
                  exact ih4891 5 n4916 n4917 n4913 n4914 n4915 ⟨by decide, by decide⟩ hn4913 (show n4915 0 = lsI (fun q : Nat => ((fa 10 0) (9 * ((n2 q).toInt).toNat + 4)).toInt64) ((r1 : Int32).toInt).toNat ∧ n4914 0 = lsI (fun q : Nat => ((fa 10 0) (9 * ((n2 q).toInt).toNat + 3)).toInt64) ((r1 : Int32).toInt).toNat ∧ n4915 1 = 0 ∧ n4914 1 = 0 from (by have k0 := xr4912_0 0 (by decide); have k1 := xr4912_0 1 (by decide); rw [k0.1, k0.2, k1.1, k1.2]; exact hq4891_0)) (show ∀ pt : Int32, pt.toInt = (iv 2 5).toInt → ∀ z : Nat, 2 ≤ z → (z : Int) < (5 : Int32).toInt → ¬ enX (fun q : Nat => ((fa 10 0) (9 * ((n2 q).toInt).toNat + 4)).toInt64) (fun q : Nat => ((fa 10 0) (9 * ((n2 q).toInt).toNat + 3)).toInt64) ((r1 : Int32).toInt).toNat (lsI (fun q : Nat => ((fa 10 0) (9 * ((n2 q).toInt).toNat + 4)).toInt64) ((r1 : Int32).toInt).toNat) (lsI (fun q : Nat => ((fa 10 0) (9 * ((n2 q).toInt).toNat + 3)).toInt64) ((r1 : Int32).toInt).toNat) pt a z from (fun pt hpt z h1 h2 => by
                        have hp9 := xr4912_1 pt 0 0 hpt (by decide) (by decide)
                        have hq9 := hq4891_0
                        rw [show ((0 : Int32).toInt).toNat = 0 from by decide, Nat.sub_zero, Nat.zero_add, Nat.zero_add, hq9.1, hq9.2.1, hq9.2.2.1, hq9.2.2.2] at hp9
                        have hw9 := Int32.toInt_inj.mp hp9.1
                        have hf9 := Int32.toInt_inj.mp hp9.2
                        have hE9 : enX (fun q : Nat => ((fa 10 0) (9 * ((n2 q).toInt).toNat + 4)).toInt64) (fun q : Nat => ((fa 10 0) (9 * ((n2 q).toInt).toNat + 3)).toInt64) ((r1 : Int32).toInt).toNat (lsI (fun q : Nat => ((fa 10 0) (9 * ((n2 q).toInt).toNat + 4)).toInt64) ((r1 : Int32).toInt).toNat) (lsI (fun q : Nat => ((fa 10 0) (9 * ((n2 q).toInt).toNat + 3)).toInt64) ((r1 : Int32).toInt).toNat) pt a 4 ↔ (v4918 : Int32).toInt ≤ (v4919 : Int32).toInt := by
                          unfold enX
                          rw [ev4918, ev4919, hw9, hf9]
                        by_cases hz : z = 4
                        · rw [hz]; exact fun y => absurd (hE9.mp y) (by omega)
                        · exact hq4891_1 pt hpt z h1 (by omega))) (show 2 ≤ (5 : Int32).toInt from by omega) (by omega) _ _ ls hP hD hS (lv_sub hl [0, 1, 2, 3] rfl)
                · have fc4920 := z_nlt (rfl : (v4919).toInt = _) (rfl : (v4918).toInt = _) c4920
                  refine lv_iload_n hx hb dX2_fewest_77 rfl (lv_at hl 0 rfl) ?_
                  have : (4 : Int32).toInt = 4 := (by decide)
                  have hP9 : va_P (dC, dI) classes (WX h g ca (u2 (u2 iv 2 6 n4916) 2 7 n4917) lv (u2 (u2 fa 2 2 n2) 20 2 n4913) (u2 (u2 la 20 0 n4914) 20 1 n4915)) H := hP
                  have hD9 : va_D A (WX h g ca (u2 (u2 iv 2 6 n4916) 2 7 n4917) lv (u2 (u2 fa 2 2 n2) 20 2 n4913) (u2 (u2 la 20 0 n4914) 20 1 n4915)) := hD
                  exact W.iret (v := 4) hx hb hr (fun t ht9 hW => ⟨⟨4, ((u2 (u2 iv 2 6 n4916) 2 7 n4917), lv, (u2 (u2 fa 2 2 n2) 20 2 n4913), (u2 (u2 la 20 0 n4914) 20 1 n4915)), rfl, ⟨n2, n4913, n4914, n4915, n4916, n4917, hn2, (show ∀ pt : Int32, pt.toInt = (iv 2 5).toInt → NeR (neX (fa 10 0) (iv 2 3).toInt (iv 2 4).toInt ((iv 10 1).toInt).toNat pt a) (lsP (cxP (fa 10 0) (iv 2 3).toInt (iv 2 4).toInt 0) ((iv 10 1).toInt).toNat).length (4 : Int32).toInt from (fun pt hpt => by
                        have hl9 := xr1_0
                        have ha9 := xr1_1
                        rw [show (0 : Int32).toInt = 0 from by decide] at hl9 ha9
                        have hn9 : ((r1 : Int32).toInt).toNat = (lsP (cxP (fa 10 0) (iv 2 3).toInt (iv 2 4).toInt 0) ((iv 10 1).toInt).toNat).length := by omega
                        have hp9 := xr4912_1 pt 0 0 hpt (by decide) (by decide)
                        have hq9 := hq4891_0
                        rw [show ((0 : Int32).toInt).toNat = 0 from by decide, Nat.sub_zero, Nat.zero_add, Nat.zero_add, hq9.1, hq9.2.1, hq9.2.2.1, hq9.2.2.2] at hp9
                        have hw9 := Int32.toInt_inj.mp hp9.1
                        have hf9 := Int32.toInt_inj.mp hp9.2
                        have hE9 : enX (fun q : Nat => ((fa 10 0) (9 * ((n2 q).toInt).toNat + 4)).toInt64) (fun q : Nat => ((fa 10 0) (9 * ((n2 q).toInt).toNat + 3)).toInt64) ((r1 : Int32).toInt).toNat (lsI (fun q : Nat => ((fa 10 0) (9 * ((n2 q).toInt).toNat + 4)).toInt64) ((r1 : Int32).toInt).toNat) (lsI (fun q : Nat => ((fa 10 0) (9 * ((n2 q).toInt).toNat + 3)).toInt64) ((r1 : Int32).toInt).toNat) pt a 4 ↔ (v4918 : Int32).toInt ≤ (v4919 : Int32).toInt := by
                          unfold enX
                          rw [ev4918, ev4919, hw9, hf9]
                        refine NeR_cg (ne_cl ha9) ?_
                        rw [← hn9]
                        exact Or.inl ⟨4, by decide, by omega, hE9.mpr (by omega), fun z h1 h2 => hq4891_1 pt hpt z h1 (by omega), by omega⟩)), ⟨by decide, by decide⟩, rfl⟩, by rw [ht9]; exact hP9, hD9⟩, hS.F ht9⟩) hS.2.2 dX2_fewest_78
              · obtain rfl : x4890_3 = 5 := z_of (by decide) q4893
                have : (5 : Int32).toInt = 5 := by decide
                have hFc := free_all hD hS hA
                refine va_callv (va_runV (As := [.int 5, .int 0, .int r1]) (rest := []) ⟨hx, hb, hml, hown, ht⟩ (c_X2_takeSome_w5 l dC dI H.size h g ca (u2 (u2 iv 2 6 0) 2 7 0) lv (u2 (u2 fa 2 2 n2) 20 2 w4890_a_20_2) (u2 (u2 la 20 0 w4890_b_20_0) 20 1 w4890_b_20_1) (IX_a (c := 20) (k := 2) (IX_a (c := 2) (k := 2) (IX_i (c := 2) (k := 7) (IX_i (c := 2) (k := 6) hI (full_i _)) (full_i _)) hn2) hw4890_a_20_2) 0 r1 ⟨by decide, by decide⟩ ⟨by omega, by omega⟩) (kV 3 ht m_933 m_935 m_38 m_85 m_936 rfl rfl hd_X2_takeSome_v ⟨Nat.le_of_ble_eq_true rfl, Nat.le_of_ble_eq_true rfl⟩) (vW hP hK hD (rX_2 hK hP)) rfl rfl hl.1 rfl (lv_room (Nat.le_of_ble_eq_true rfl)) dX2_fewest_58 ⟨Nat.le_of_ble_eq_true rfl, Nat.le_of_ble_eq_true rfl⟩) hS (fun q _ h => hFc q h) hFc (fun u t H1 locs ht9 hvm hr4921 hB hz1 hk1 hS => ?_)
                obtain ⟨n4922, n4923, n4924, n4925, n4926, xr4921_0, xr4921_1, rfl⟩ := hr4921
                have hn4922 : ∀ j, inb (bA 20 2 j) (n4922 j) := fun j => full_i _
                obtain ⟨hP, hD⟩ := hB
                rw [ht9] at hP
                generalize H1 = H at hP hS ⊢
                have hP : va_P (dC, dI) classes (WX h g ca (u2 (u2 iv 2 6 n4925) 2 7 n4926) lv (u2 (u2 fa 2 2 n2) 20 2 n4922) (u2 (u2 la 20 0 n4923) 20 1 n4924)) H := hP
                have hD : va_D A (WX h g ca (u2 (u2 iv 2 6 n4925) 2 7 n4926) lv (u2 (u2 fa 2 2 n2) 20 2 n4922) (u2 (u2 la 20 0 n4923) 20 1 n4924)) := (show va_D _ (WX h g ca (u2 (u2 iv 2 6 n4925) 2 7 n4926) lv (u2 (u2 fa 2 2 n2) 20 2 n4922) (u2 (u2 la 20 0 n4923) 20 1 n4924)) from hD).weaken (fun _ _ _ h => hFc _ h)
                have xr4921_0 : ∀ j : Nat, j < 2 → n4923 j = w4890_b_20_0 j ∧ n4924 j = w4890_b_20_1 j := xr4921_0
                have xr4921_1 : ∀ (pt : Int32) (w0 f0 : Nat), pt.toInt = ((iv 2 5) : Int32).toInt → (0 : Int32).toInt = (oN w0).toInt → (0 : Int32).toInt = (oN f0).toInt → (n4925 : Int32).toInt = (oN (w0 + nT nO (fun q : Nat => ((fa 10 0) (9 * ((n2 q).toInt).toNat + 4)).toInt64) (fun q : Nat => ((fa 10 0) (9 * ((n2 q).toInt).toNat + 3)).toInt64) (((r1 : Int32).toInt).toNat - ((0 : Int32).toInt).toNat) ((0 : Int32).toInt).toNat 5 (w4890_b_20_1 1) (w4890_b_20_0 1))).toInt ∧ (n4926 : Int32).toInt = (oN (f0 + nT (nF (w4890_b_20_1 0) (w4890_b_20_0 0) pt) (fun q : Nat => ((fa 10 0) (9 * ((n2 q).toInt).toNat + 4)).toInt64) (fun q : Nat => ((fa 10 0) (9 * ((n2 q).toInt).toNat + 3)).toInt64) (((r1 : Int32).toInt).toNat - ((0 : Int32).toInt).toNat) ((0 : Int32).toInt).toNat 5 (w4890_b_20_1 1) (w4890_b_20_0 1))).toInt := xr4921_1
                refine lv_bipush (v := 100) hx hb dX2_fewest_61 (by decide) ?_
                refine lv_aload_n hx hb dX2_fewest_63 rfl (lv_at hl 2 rfl) ?_
                refine gX_2_7 hx hb ht hown hK hP m_311 (v := n4926) rfl dX2_fewest_64 ?_
                refine lv_imul hx hb dX2_fewest_67 ?_
                refine lv_topi (fun v4927 ev4927 => ?_)
                refine lv_iload_n hx hb dX2_fewest_68 rfl (lv_at hl 3 rfl) ?_
                refine lv_aload_n hx hb dX2_fewest_69 rfl (lv_at hl 2 rfl) ?_
                refine gX_2_6 hx hb ht hown hK hP m_310 (v := n4925) rfl dX2_fewest_70 ?_
                refine lv_imul hx hb dX2_fewest_73 ?_
                refine lv_topi (fun v4928 ev4928 => ?_)
                refine lv_icmp_gt (tgt := 79) hx hb dX2_fewest_74 (by decide) (fun c4929 => ?_) (fun c4929 => ?_)
                · have fc4929 := z_lt (rfl : (v4928).toInt = _) (rfl : (v4927).toInt = _) c4929
                  refine lv_iinc (v := 6) (lv' := [(3, .int 6), (2, .int r1), (0, .ref (g 11 6)), (1, .int a)]) hx hb dX2_fewest_79 hl (k := 0) rfl (by decide) (by decide) rfl (fun ls hl => ?_)
                  refine lv_goto (tgt := 39) hx hb dX2_fewest_82 (by decide) ?_
                  have : (6 : Int32).toInt = 6 := (by decide)
                  exact ih4891 6 n4925 n4926 n4922 n4923 n4924 ⟨by decide, by decide⟩ hn4922 (show n4924 0 = lsI (fun q : Nat => ((fa 10 0) (9 * ((n2 q).toInt).toNat + 4)).toInt64) ((r1 : Int32).toInt).toNat ∧ n4923 0 = lsI (fun q : Nat => ((fa 10 0) (9 * ((n2 q).toInt).toNat + 3)).toInt64) ((r1 : Int32).toInt).toNat ∧ n4924 1 = 0 ∧ n4923 1 = 0 from (by have k0 := xr4921_0 0 (by decide); have k1 := xr4921_0 1 (by decide); rw [k0.1, k0.2, k1.1, k1.2]; exact hq4891_0)) (show ∀ pt : Int32, pt.toInt = (iv 2 5).toInt → ∀ z : Nat, 2 ≤ z → (z : Int) < (6 : Int32).toInt → ¬ enX (fun q : Nat => ((fa 10 0) (9 * ((n2 q).toInt).toNat + 4)).toInt64) (fun q : Nat => ((fa 10 0) (9 * ((n2 q).toInt).toNat + 3)).toInt64) ((r1 : Int32).toInt).toNat (lsI (fun q : Nat => ((fa 10 0) (9 * ((n2 q).toInt).toNat + 4)).toInt64) ((r1 : Int32).toInt).toNat) (lsI (fun q : Nat => ((fa 10 0) (9 * ((n2 q).toInt).toNat + 3)).toInt64) ((r1 : Int32).toInt).toNat) pt a z from (fun pt hpt z h1 h2 => by
                        have hp9 := xr4921_1 pt 0 0 hpt (by decide) (by decide)
                        have hq9 := hq4891_0
                        rw [show ((0 : Int32).toInt).toNat = 0 from by decide, Nat.sub_zero, Nat.zero_add, Nat.zero_add, hq9.1, hq9.2.1, hq9.2.2.1, hq9.2.2.2] at hp9
                        have hw9 := Int32.toInt_inj.mp hp9.1
                        have hf9 := Int32.toInt_inj.mp hp9.2
                        have hE9 : enX (fun q : Nat => ((fa 10 0) (9 * ((n2 q).toInt).toNat + 4)).toInt64) (fun q : Nat => ((fa 10 0) (9 * ((n2 q).toInt).toNat + 3)).toInt64) ((r1 : Int32).toInt).toNat (lsI (fun q : Nat => ((fa 10 0) (9 * ((n2 q).toInt).toNat + 4)).toInt64) ((r1 : Int32).toInt).toNat) (lsI (fun q : Nat => ((fa 10 0) (9 * ((n2 q).toInt).toNat + 3)).toInt64) ((r1 : Int32).toInt).toNat) pt a 5 ↔ (v4927 : Int32).toInt ≤ (v4928 : Int32).toInt := by
                          unfold enX
                          rw [ev4927, ev4928, hw9, hf9]
                        by_cases hz : z = 5
                        · rw [hz]; exact fun y => absurd (hE9.mp y) (by omega)
                        · exact hq4891_1 pt hpt z h1 (by omega))) (show 2 ≤ (6 : Int32).toInt from by omega) (by omega) _ _ ls hP hD hS (lv_sub hl [0, 1, 2, 3] rfl)
                · have fc4929 := z_nlt (rfl : (v4928).toInt = _) (rfl : (v4927).toInt = _) c4929
                  refine lv_iload_n hx hb dX2_fewest_77 rfl (lv_at hl 0 rfl) ?_
                  have : (5 : Int32).toInt = 5 := (by decide)
                  have hP9 : va_P (dC, dI) classes (WX h g ca (u2 (u2 iv 2 6 n4925) 2 7 n4926) lv (u2 (u2 fa 2 2 n2) 20 2 n4922) (u2 (u2 la 20 0 n4923) 20 1 n4924)) H := hP
                  have hD9 : va_D A (WX h g ca (u2 (u2 iv 2 6 n4925) 2 7 n4926) lv (u2 (u2 fa 2 2 n2) 20 2 n4922) (u2 (u2 la 20 0 n4923) 20 1 n4924)) := hD
                  exact W.iret (v := 5) hx hb hr (fun t ht9 hW => ⟨⟨5, ((u2 (u2 iv 2 6 n4925) 2 7 n4926), lv, (u2 (u2 fa 2 2 n2) 20 2 n4922), (u2 (u2 la 20 0 n4923) 20 1 n4924)), rfl, ⟨n2, n4922, n4923, n4924, n4925, n4926, hn2, (show ∀ pt : Int32, pt.toInt = (iv 2 5).toInt → NeR (neX (fa 10 0) (iv 2 3).toInt (iv 2 4).toInt ((iv 10 1).toInt).toNat pt a) (lsP (cxP (fa 10 0) (iv 2 3).toInt (iv 2 4).toInt 0) ((iv 10 1).toInt).toNat).length (5 : Int32).toInt from (fun pt hpt => by
                        have hl9 := xr1_0
                        have ha9 := xr1_1
                        rw [show (0 : Int32).toInt = 0 from by decide] at hl9 ha9
                        have hn9 : ((r1 : Int32).toInt).toNat = (lsP (cxP (fa 10 0) (iv 2 3).toInt (iv 2 4).toInt 0) ((iv 10 1).toInt).toNat).length := by omega
                        have hp9 := xr4921_1 pt 0 0 hpt (by decide) (by decide)
                        have hq9 := hq4891_0
                        rw [show ((0 : Int32).toInt).toNat = 0 from by decide, Nat.sub_zero, Nat.zero_add, Nat.zero_add, hq9.1, hq9.2.1, hq9.2.2.1, hq9.2.2.2] at hp9
                        have hw9 := Int32.toInt_inj.mp hp9.1
                        have hf9 := Int32.toInt_inj.mp hp9.2
                        have hE9 : enX (fun q : Nat => ((fa 10 0) (9 * ((n2 q).toInt).toNat + 4)).toInt64) (fun q : Nat => ((fa 10 0) (9 * ((n2 q).toInt).toNat + 3)).toInt64) ((r1 : Int32).toInt).toNat (lsI (fun q : Nat => ((fa 10 0) (9 * ((n2 q).toInt).toNat + 4)).toInt64) ((r1 : Int32).toInt).toNat) (lsI (fun q : Nat => ((fa 10 0) (9 * ((n2 q).toInt).toNat + 3)).toInt64) ((r1 : Int32).toInt).toNat) pt a 5 ↔ (v4927 : Int32).toInt ≤ (v4928 : Int32).toInt := by
                          unfold enX
                          rw [ev4927, ev4928, hw9, hf9]
                        refine NeR_cg (ne_cl ha9) ?_
                        rw [← hn9]
                        exact Or.inl ⟨5, by decide, by omega, hE9.mpr (by omega), fun z h1 h2 => hq4891_1 pt hpt z h1 (by omega), by omega⟩)), ⟨by decide, by decide⟩, rfl⟩, by rw [ht9]; exact hP9, hD9⟩, hS.F ht9⟩) hS.2.2 dX2_fewest_78
              · obtain rfl : x4890_3 = 6 := z_of (by decide) q4893
                have : (6 : Int32).toInt = 6 := by decide
                have hFc := free_all hD hS hA
                refine va_callv (va_runV (As := [.int 6, .int 0, .int r1]) (rest := []) ⟨hx, hb, hml, hown, ht⟩ (c_X2_takeSome_w6 l dC dI H.size h g ca (u2 (u2 iv 2 6 0) 2 7 0) lv (u2 (u2 fa 2 2 n2) 20 2 w4890_a_20_2) (u2 (u2 la 20 0 w4890_b_20_0) 20 1 w4890_b_20_1) (IX_a (c := 20) (k := 2) (IX_a (c := 2) (k := 2) (IX_i (c := 2) (k := 7) (IX_i (c := 2) (k := 6) hI (full_i _)) (full_i _)) hn2) hw4890_a_20_2) 0 r1 ⟨by decide, by decide⟩ ⟨by omega, by omega⟩) (kV 3 ht m_933 m_935 m_38 m_85 m_936 rfl rfl hd_X2_takeSome_v ⟨Nat.le_of_ble_eq_true rfl, Nat.le_of_ble_eq_true rfl⟩) (vW hP hK hD (rX_2 hK hP)) rfl rfl hl.1 rfl (lv_room (Nat.le_of_ble_eq_true rfl)) dX2_fewest_58 ⟨Nat.le_of_ble_eq_true rfl, Nat.le_of_ble_eq_true rfl⟩) hS (fun q _ h => hFc q h) hFc (fun u t H1 locs ht9 hvm hr4930 hB hz1 hk1 hS => ?_)
                obtain ⟨n4931, n4932, n4933, n4934, n4935, xr4930_0, xr4930_1, rfl⟩ := hr4930
                have hn4931 : ∀ j, inb (bA 20 2 j) (n4931 j) := fun j => full_i _
                obtain ⟨hP, hD⟩ := hB
                rw [ht9] at hP
                generalize H1 = H at hP hS ⊢
                have hP : va_P (dC, dI) classes (WX h g ca (u2 (u2 iv 2 6 n4934) 2 7 n4935) lv (u2 (u2 fa 2 2 n2) 20 2 n4931) (u2 (u2 la 20 0 n4932) 20 1 n4933)) H := hP
                have hD : va_D A (WX h g ca (u2 (u2 iv 2 6 n4934) 2 7 n4935) lv (u2 (u2 fa 2 2 n2) 20 2 n4931) (u2 (u2 la 20 0 n4932) 20 1 n4933)) := (show va_D _ (WX h g ca (u2 (u2 iv 2 6 n4934) 2 7 n4935) lv (u2 (u2 fa 2 2 n2) 20 2 n4931) (u2 (u2 la 20 0 n4932) 20 1 n4933)) from hD).weaken (fun _ _ _ h => hFc _ h)
                have xr4930_0 : ∀ j : Nat, j < 2 → n4932 j = w4890_b_20_0 j ∧ n4933 j = w4890_b_20_1 j := xr4930_0
                have xr4930_1 : ∀ (pt : Int32) (w0 f0 : Nat), pt.toInt = ((iv 2 5) : Int32).toInt → (0 : Int32).toInt = (oN w0).toInt → (0 : Int32).toInt = (oN f0).toInt → (n4934 : Int32).toInt = (oN (w0 + nT nO (fun q : Nat => ((fa 10 0) (9 * ((n2 q).toInt).toNat + 4)).toInt64) (fun q : Nat => ((fa 10 0) (9 * ((n2 q).toInt).toNat + 3)).toInt64) (((r1 : Int32).toInt).toNat - ((0 : Int32).toInt).toNat) ((0 : Int32).toInt).toNat 6 (w4890_b_20_1 1) (w4890_b_20_0 1))).toInt ∧ (n4935 : Int32).toInt = (oN (f0 + nT (nF (w4890_b_20_1 0) (w4890_b_20_0 0) pt) (fun q : Nat => ((fa 10 0) (9 * ((n2 q).toInt).toNat + 4)).toInt64) (fun q : Nat => ((fa 10 0) (9 * ((n2 q).toInt).toNat + 3)).toInt64) (((r1 : Int32).toInt).toNat - ((0 : Int32).toInt).toNat) ((0 : Int32).toInt).toNat 6 (w4890_b_20_1 1) (w4890_b_20_0 1))).toInt := xr4930_1
                refine lv_bipush (v := 100) hx hb dX2_fewest_61 (by decide) ?_
                refine lv_aload_n hx hb dX2_fewest_63 rfl (lv_at hl 2 rfl) ?_
                refine gX_2_7 hx hb ht hown hK hP m_311 (v := n4935) rfl dX2_fewest_64 ?_
                refine lv_imul hx hb dX2_fewest_67 ?_
                refine lv_topi (fun v4936 ev4936 => ?_)
                refine lv_iload_n hx hb dX2_fewest_68 rfl (lv_at hl 3 rfl) ?_
                refine lv_aload_n hx hb dX2_fewest_69 rfl (lv_at hl 2 rfl) ?_
                refine gX_2_6 hx hb ht hown hK hP m_310 (v := n4934) rfl dX2_fewest_70 ?_
                refine lv_imul hx hb dX2_fewest_73 ?_
                refine lv_topi (fun v4937 ev4937 => ?_)
                refine lv_icmp_gt (tgt := 79) hx hb dX2_fewest_74 (by decide) (fun c4938 => ?_) (fun c4938 => ?_)
                · have fc4938 := z_lt (rfl : (v4937).toInt = _) (rfl : (v4936).toInt = _) c4938
                  refine lv_iinc (v := 7) (lv' := [(3, .int 7), (2, .int r1), (0, .ref (g 11 6)), (1, .int a)]) hx hb dX2_fewest_79 hl (k := 0) rfl (by decide) (by decide) rfl (fun ls hl => ?_)
                  refine lv_goto (tgt := 39) hx hb dX2_fewest_82 (by decide) ?_
                  have : (7 : Int32).toInt = 7 := (by decide)
                  exact ih4891 7 n4934 n4935 n4931 n4932 n4933 ⟨by decide, by decide⟩ hn4931 (show n4933 0 = lsI (fun q : Nat => ((fa 10 0) (9 * ((n2 q).toInt).toNat + 4)).toInt64) ((r1 : Int32).toInt).toNat ∧ n4932 0 = lsI (fun q : Nat => ((fa 10 0) (9 * ((n2 q).toInt).toNat + 3)).toInt64) ((r1 : Int32).toInt).toNat ∧ n4933 1 = 0 ∧ n4932 1 = 0 from (by have k0 := xr4930_0 0 (by decide); have k1 := xr4930_0 1 (by decide); rw [k0.1, k0.2, k1.1, k1.2]; exact hq4891_0)) (show ∀ pt : Int32, pt.toInt = (iv 2 5).toInt → ∀ z : Nat, 2 ≤ z → (z : Int) < (7 : Int32).toInt → ¬ enX (fun q : Nat => ((fa 10 0) (9 * ((n2 q).toInt).toNat + 4)).toInt64) (fun q : Nat => ((fa 10 0) (9 * ((n2 q).toInt).toNat + 3)).toInt64) ((r1 : Int32).toInt).toNat (lsI (fun q : Nat => ((fa 10 0) (9 * ((n2 q).toInt).toNat + 4)).toInt64) ((r1 : Int32).toInt).toNat) (lsI (fun q : Nat => ((fa 10 0) (9 * ((n2 q).toInt).toNat + 3)).toInt64) ((r1 : Int32).toInt).toNat) pt a z from (fun pt hpt z h1 h2 => by
                        have hp9 := xr4930_1 pt 0 0 hpt (by decide) (by decide)
                        have hq9 := hq4891_0
                        rw [show ((0 : Int32).toInt).toNat = 0 from by decide, Nat.sub_zero, Nat.zero_add, Nat.zero_add, hq9.1, hq9.2.1, hq9.2.2.1, hq9.2.2.2] at hp9
                        have hw9 := Int32.toInt_inj.mp hp9.1
                        have hf9 := Int32.toInt_inj.mp hp9.2
                        have hE9 : enX (fun q : Nat => ((fa 10 0) (9 * ((n2 q).toInt).toNat + 4)).toInt64) (fun q : Nat => ((fa 10 0) (9 * ((n2 q).toInt).toNat + 3)).toInt64) ((r1 : Int32).toInt).toNat (lsI (fun q : Nat => ((fa 10 0) (9 * ((n2 q).toInt).toNat + 4)).toInt64) ((r1 : Int32).toInt).toNat) (lsI (fun q : Nat => ((fa 10 0) (9 * ((n2 q).toInt).toNat + 3)).toInt64) ((r1 : Int32).toInt).toNat) pt a 6 ↔ (v4936 : Int32).toInt ≤ (v4937 : Int32).toInt := by
                          unfold enX
                          rw [ev4936, ev4937, hw9, hf9]
                        by_cases hz : z = 6
                        · rw [hz]; exact fun y => absurd (hE9.mp y) (by omega)
                        · exact hq4891_1 pt hpt z h1 (by omega))) (show 2 ≤ (7 : Int32).toInt from by omega) (by omega) _ _ ls hP hD hS (lv_sub hl [0, 1, 2, 3] rfl)
                · have fc4938 := z_nlt (rfl : (v4937).toInt = _) (rfl : (v4936).toInt = _) c4938
                  refine lv_iload_n hx hb dX2_fewest_77 rfl (lv_at hl 0 rfl) ?_
                  have : (6 : Int32).toInt = 6 := (by decide)
                  have hP9 : va_P (dC, dI) classes (WX h g ca (u2 (u2 iv 2 6 n4934) 2 7 n4935) lv (u2 (u2 fa 2 2 n2) 20 2 n4931) (u2 (u2 la 20 0 n4932) 20 1 n4933)) H := hP
                  have hD9 : va_D A (WX h g ca (u2 (u2 iv 2 6 n4934) 2 7 n4935) lv (u2 (u2 fa 2 2 n2) 20 2 n4931) (u2 (u2 la 20 0 n4932) 20 1 n4933)) := hD
                  exact W.iret (v := 6) hx hb hr (fun t ht9 hW => ⟨⟨6, ((u2 (u2 iv 2 6 n4934) 2 7 n4935), lv, (u2 (u2 fa 2 2 n2) 20 2 n4931), (u2 (u2 la 20 0 n4932) 20 1 n4933)), rfl, ⟨n2, n4931, n4932, n4933, n4934, n4935, hn2, (show ∀ pt : Int32, pt.toInt = (iv 2 5).toInt → NeR (neX (fa 10 0) (iv 2 3).toInt (iv 2 4).toInt ((iv 10 1).toInt).toNat pt a) (lsP (cxP (fa 10 0) (iv 2 3).toInt (iv 2 4).toInt 0) ((iv 10 1).toInt).toNat).length (6 : Int32).toInt from (fun pt hpt => by
                        have hl9 := xr1_0
                        have ha9 := xr1_1
                        rw [show (0 : Int32).toInt = 0 from by decide] at hl9 ha9
                        have hn9 : ((r1 : Int32).toInt).toNat = (lsP (cxP (fa 10 0) (iv 2 3).toInt (iv 2 4).toInt 0) ((iv 10 1).toInt).toNat).length := by omega
                        have hp9 := xr4930_1 pt 0 0 hpt (by decide) (by decide)
                        have hq9 := hq4891_0
                        rw [show ((0 : Int32).toInt).toNat = 0 from by decide, Nat.sub_zero, Nat.zero_add, Nat.zero_add, hq9.1, hq9.2.1, hq9.2.2.1, hq9.2.2.2] at hp9
                        have hw9 := Int32.toInt_inj.mp hp9.1
                        have hf9 := Int32.toInt_inj.mp hp9.2
                        have hE9 : enX (fun q : Nat => ((fa 10 0) (9 * ((n2 q).toInt).toNat + 4)).toInt64) (fun q : Nat => ((fa 10 0) (9 * ((n2 q).toInt).toNat + 3)).toInt64) ((r1 : Int32).toInt).toNat (lsI (fun q : Nat => ((fa 10 0) (9 * ((n2 q).toInt).toNat + 4)).toInt64) ((r1 : Int32).toInt).toNat) (lsI (fun q : Nat => ((fa 10 0) (9 * ((n2 q).toInt).toNat + 3)).toInt64) ((r1 : Int32).toInt).toNat) pt a 6 ↔ (v4936 : Int32).toInt ≤ (v4937 : Int32).toInt := by
                          unfold enX
                          rw [ev4936, ev4937, hw9, hf9]
                        refine NeR_cg (ne_cl ha9) ?_
                        rw [← hn9]
                        exact Or.inl ⟨6, by decide, by omega, hE9.mpr (by omega), fun z h1 h2 => hq4891_1 pt hpt z h1 (by omega), by omega⟩)), ⟨by decide, by decide⟩, rfl⟩, by rw [ht9]; exact hP9, hD9⟩, hS.F ht9⟩) hS.2.2 dX2_fewest_78
              · obtain rfl : x4890_3 = 7 := z_of (by decide) q4893
                have : (7 : Int32).toInt = 7 := by decide
                have hFc := free_all hD hS hA
                refine va_callv (va_runV (As := [.int 7, .int 0, .int r1]) (rest := []) ⟨hx, hb, hml, hown, ht⟩ (c_X2_takeSome_w7 l dC dI H.size h g ca (u2 (u2 iv 2 6 0) 2 7 0) lv (u2 (u2 fa 2 2 n2) 20 2 w4890_a_20_2) (u2 (u2 la 20 0 w4890_b_20_0) 20 1 w4890_b_20_1) (IX_a (c := 20) (k := 2) (IX_a (c := 2) (k := 2) (IX_i (c := 2) (k := 7) (IX_i (c := 2) (k := 6) hI (full_i _)) (full_i _)) hn2) hw4890_a_20_2) 0 r1 ⟨by decide, by decide⟩ ⟨by omega, by omega⟩) (kV 3 ht m_933 m_935 m_38 m_85 m_936 rfl rfl hd_X2_takeSome_v ⟨Nat.le_of_ble_eq_true rfl, Nat.le_of_ble_eq_true rfl⟩) (vW hP hK hD (rX_2 hK hP)) rfl rfl hl.1 rfl (lv_room (Nat.le_of_ble_eq_true rfl)) dX2_fewest_58 ⟨Nat.le_of_ble_eq_true rfl, Nat.le_of_ble_eq_true rfl⟩) hS (fun q _ h => hFc q h) hFc (fun u t H1 locs ht9 hvm hr4939 hB hz1 hk1 hS => ?_)
                obtain ⟨n4940, n4941, n4942, n4943, n4944, xr4939_0, xr4939_1, rfl⟩ := hr4939
                have hn4940 : ∀ j, inb (bA 20 2 j) (n4940 j) := fun j => full_i _
                obtain ⟨hP, hD⟩ := hB
                rw [ht9] at hP
                generalize H1 = H at hP hS ⊢
                have hP : va_P (dC, dI) classes (WX h g ca (u2 (u2 iv 2 6 n4943) 2 7 n4944) lv (u2 (u2 fa 2 2 n2) 20 2 n4940) (u2 (u2 la 20 0 n4941) 20 1 n4942)) H := hP
                have hD : va_D A (WX h g ca (u2 (u2 iv 2 6 n4943) 2 7 n4944) lv (u2 (u2 fa 2 2 n2) 20 2 n4940) (u2 (u2 la 20 0 n4941) 20 1 n4942)) := (show va_D _ (WX h g ca (u2 (u2 iv 2 6 n4943) 2 7 n4944) lv (u2 (u2 fa 2 2 n2) 20 2 n4940) (u2 (u2 la 20 0 n4941) 20 1 n4942)) from hD).weaken (fun _ _ _ h => hFc _ h)
                have xr4939_0 : ∀ j : Nat, j < 2 → n4941 j = w4890_b_20_0 j ∧ n4942 j = w4890_b_20_1 j := xr4939_0
                have xr4939_1 : ∀ (pt : Int32) (w0 f0 : Nat), pt.toInt = ((iv 2 5) : Int32).toInt → (0 : Int32).toInt = (oN w0).toInt → (0 : Int32).toInt = (oN f0).toInt → (n4943 : Int32).toInt = (oN (w0 + nT nO (fun q : Nat => ((fa 10 0) (9 * ((n2 q).toInt).toNat + 4)).toInt64) (fun q : Nat => ((fa 10 0) (9 * ((n2 q).toInt).toNat + 3)).toInt64) (((r1 : Int32).toInt).toNat - ((0 : Int32).toInt).toNat) ((0 : Int32).toInt).toNat 7 (w4890_b_20_1 1) (w4890_b_20_0 1))).toInt ∧ (n4944 : Int32).toInt = (oN (f0 + nT (nF (w4890_b_20_1 0) (w4890_b_20_0 0) pt) (fun q : Nat => ((fa 10 0) (9 * ((n2 q).toInt).toNat + 4)).toInt64) (fun q : Nat => ((fa 10 0) (9 * ((n2 q).toInt).toNat + 3)).toInt64) (((r1 : Int32).toInt).toNat - ((0 : Int32).toInt).toNat) ((0 : Int32).toInt).toNat 7 (w4890_b_20_1 1) (w4890_b_20_0 1))).toInt := xr4939_1
                refine lv_bipush (v := 100) hx hb dX2_fewest_61 (by decide) ?_
                refine lv_aload_n hx hb dX2_fewest_63 rfl (lv_at hl 2 rfl) ?_
                refine gX_2_7 hx hb ht hown hK hP m_311 (v := n4944) rfl dX2_fewest_64 ?_
                refine lv_imul hx hb dX2_fewest_67 ?_
                refine lv_topi (fun v4945 ev4945 => ?_)
                refine lv_iload_n hx hb dX2_fewest_68 rfl (lv_at hl 3 rfl) ?_
                refine lv_aload_n hx hb dX2_fewest_69 rfl (lv_at hl 2 rfl) ?_
                refine gX_2_6 hx hb ht hown hK hP m_310 (v := n4943) rfl dX2_fewest_70 ?_
                refine lv_imul hx hb dX2_fewest_73 ?_
                refine lv_topi (fun v4946 ev4946 => ?_)
                refine lv_icmp_gt (tgt := 79) hx hb dX2_fewest_74 (by decide) (fun c4947 => ?_) (fun c4947 => ?_)
                · have fc4947 := z_lt (rfl : (v4946).toInt = _) (rfl : (v4945).toInt = _) c4947
                  refine lv_iinc (v := 8) (lv' := [(3, .int 8), (2, .int r1), (0, .ref (g 11 6)), (1, .int a)]) hx hb dX2_fewest_79 hl (k := 0) rfl (by decide) (by decide) rfl (fun ls hl => ?_)
                  refine lv_goto (tgt := 39) hx hb dX2_fewest_82 (by decide) ?_
                  have : (8 : Int32).toInt = 8 := (by decide)
                  exact ih4891 8 n4943 n4944 n4940 n4941 n4942 ⟨by decide, by decide⟩ hn4940 (show n4942 0 = lsI (fun q : Nat => ((fa 10 0) (9 * ((n2 q).toInt).toNat + 4)).toInt64) ((r1 : Int32).toInt).toNat ∧ n4941 0 = lsI (fun q : Nat => ((fa 10 0) (9 * ((n2 q).toInt).toNat + 3)).toInt64) ((r1 : Int32).toInt).toNat ∧ n4942 1 = 0 ∧ n4941 1 = 0 from (by have k0 := xr4939_0 0 (by decide); have k1 := xr4939_0 1 (by decide); rw [k0.1, k0.2, k1.1, k1.2]; exact hq4891_0)) (show ∀ pt : Int32, pt.toInt = (iv 2 5).toInt → ∀ z : Nat, 2 ≤ z → (z : Int) < (8 : Int32).toInt → ¬ enX (fun q : Nat => ((fa 10 0) (9 * ((n2 q).toInt).toNat + 4)).toInt64) (fun q : Nat => ((fa 10 0) (9 * ((n2 q).toInt).toNat + 3)).toInt64) ((r1 : Int32).toInt).toNat (lsI (fun q : Nat => ((fa 10 0) (9 * ((n2 q).toInt).toNat + 4)).toInt64) ((r1 : Int32).toInt).toNat) (lsI (fun q : Nat => ((fa 10 0) (9 * ((n2 q).toInt).toNat + 3)).toInt64) ((r1 : Int32).toInt).toNat) pt a z from (fun pt hpt z h1 h2 => by
                        have hp9 := xr4939_1 pt 0 0 hpt (by decide) (by decide)
                        have hq9 := hq4891_0
                        rw [show ((0 : Int32).toInt).toNat = 0 from by decide, Nat.sub_zero, Nat.zero_add, Nat.zero_add, hq9.1, hq9.2.1, hq9.2.2.1, hq9.2.2.2] at hp9
                        have hw9 := Int32.toInt_inj.mp hp9.1
                        have hf9 := Int32.toInt_inj.mp hp9.2
                        have hE9 : enX (fun q : Nat => ((fa 10 0) (9 * ((n2 q).toInt).toNat + 4)).toInt64) (fun q : Nat => ((fa 10 0) (9 * ((n2 q).toInt).toNat + 3)).toInt64) ((r1 : Int32).toInt).toNat (lsI (fun q : Nat => ((fa 10 0) (9 * ((n2 q).toInt).toNat + 4)).toInt64) ((r1 : Int32).toInt).toNat) (lsI (fun q : Nat => ((fa 10 0) (9 * ((n2 q).toInt).toNat + 3)).toInt64) ((r1 : Int32).toInt).toNat) pt a 7 ↔ (v4945 : Int32).toInt ≤ (v4946 : Int32).toInt := by
                          unfold enX
                          rw [ev4945, ev4946, hw9, hf9]
                        by_cases hz : z = 7
                        · rw [hz]; exact fun y => absurd (hE9.mp y) (by omega)
                        · exact hq4891_1 pt hpt z h1 (by omega))) (show 2 ≤ (8 : Int32).toInt from by omega) (by omega) _ _ ls hP hD hS (lv_sub hl [0, 1, 2, 3] rfl)
                · have fc4947 := z_nlt (rfl : (v4946).toInt = _) (rfl : (v4945).toInt = _) c4947
                  refine lv_iload_n hx hb dX2_fewest_77 rfl (lv_at hl 0 rfl) ?_
                  have : (7 : Int32).toInt = 7 := (by decide)
                  have hP9 : va_P (dC, dI) classes (WX h g ca (u2 (u2 iv 2 6 n4943) 2 7 n4944) lv (u2 (u2 fa 2 2 n2) 20 2 n4940) (u2 (u2 la 20 0 n4941) 20 1 n4942)) H := hP
                  have hD9 : va_D A (WX h g ca (u2 (u2 iv 2 6 n4943) 2 7 n4944) lv (u2 (u2 fa 2 2 n2) 20 2 n4940) (u2 (u2 la 20 0 n4941) 20 1 n4942)) := hD
                  exact W.iret (v := 7) hx hb hr (fun t ht9 hW => ⟨⟨7, ((u2 (u2 iv 2 6 n4943) 2 7 n4944), lv, (u2 (u2 fa 2 2 n2) 20 2 n4940), (u2 (u2 la 20 0 n4941) 20 1 n4942)), rfl, ⟨n2, n4940, n4941, n4942, n4943, n4944, hn2, (show ∀ pt : Int32, pt.toInt = (iv 2 5).toInt → NeR (neX (fa 10 0) (iv 2 3).toInt (iv 2 4).toInt ((iv 10 1).toInt).toNat pt a) (lsP (cxP (fa 10 0) (iv 2 3).toInt (iv 2 4).toInt 0) ((iv 10 1).toInt).toNat).length (7 : Int32).toInt from (fun pt hpt => by
                        have hl9 := xr1_0
                        have ha9 := xr1_1
                        rw [show (0 : Int32).toInt = 0 from by decide] at hl9 ha9
                        have hn9 : ((r1 : Int32).toInt).toNat = (lsP (cxP (fa 10 0) (iv 2 3).toInt (iv 2 4).toInt 0) ((iv 10 1).toInt).toNat).length := by omega
                        have hp9 := xr4939_1 pt 0 0 hpt (by decide) (by decide)
                        have hq9 := hq4891_0
                        rw [show ((0 : Int32).toInt).toNat = 0 from by decide, Nat.sub_zero, Nat.zero_add, Nat.zero_add, hq9.1, hq9.2.1, hq9.2.2.1, hq9.2.2.2] at hp9
                        have hw9 := Int32.toInt_inj.mp hp9.1
                        have hf9 := Int32.toInt_inj.mp hp9.2
                        have hE9 : enX (fun q : Nat => ((fa 10 0) (9 * ((n2 q).toInt).toNat + 4)).toInt64) (fun q : Nat => ((fa 10 0) (9 * ((n2 q).toInt).toNat + 3)).toInt64) ((r1 : Int32).toInt).toNat (lsI (fun q : Nat => ((fa 10 0) (9 * ((n2 q).toInt).toNat + 4)).toInt64) ((r1 : Int32).toInt).toNat) (lsI (fun q : Nat => ((fa 10 0) (9 * ((n2 q).toInt).toNat + 3)).toInt64) ((r1 : Int32).toInt).toNat) pt a 7 ↔ (v4945 : Int32).toInt ≤ (v4946 : Int32).toInt := by
                          unfold enX
                          rw [ev4945, ev4946, hw9, hf9]
                        refine NeR_cg (ne_cl ha9) ?_
                        rw [← hn9]
                        exact Or.inl ⟨7, by decide, by omega, hE9.mpr (by omega), fun z h1 h2 => hq4891_1 pt hpt z h1 (by omega), by omega⟩)), ⟨by decide, by decide⟩, rfl⟩, by rw [ht9]; exact hP9, hD9⟩, hS.F ht9⟩) hS.2.2 dX2_fewest_78
              · obtain rfl : x4890_3 = 8 := z_of (by decide) q4893
                have : (8 : Int32).toInt = 8 := by decide
                have hFc := free_all hD hS hA
                refine va_callv (va_runV (As := [.int 8, .int 0, .int r1]) (rest := []) ⟨hx, hb, hml, hown, ht⟩ (c_X2_takeSome_w8 l dC dI H.size h g ca (u2 (u2 iv 2 6 0) 2 7 0) lv (u2 (u2 fa 2 2 n2) 20 2 w4890_a_20_2) (u2 (u2 la 20 0 w4890_b_20_0) 20 1 w4890_b_20_1) (IX_a (c := 20) (k := 2) (IX_a (c := 2) (k := 2) (IX_i (c := 2) (k := 7) (IX_i (c := 2) (k := 6) hI (full_i _)) (full_i _)) hn2) hw4890_a_20_2) 0 r1 ⟨by decide, by decide⟩ ⟨by omega, by omega⟩) (kV 3 ht m_933 m_935 m_38 m_85 m_936 rfl rfl hd_X2_takeSome_v ⟨Nat.le_of_ble_eq_true rfl, Nat.le_of_ble_eq_true rfl⟩) (vW hP hK hD (rX_2 hK hP)) rfl rfl hl.1 rfl (lv_room (Nat.le_of_ble_eq_true rfl)) dX2_fewest_58 ⟨Nat.le_of_ble_eq_true rfl, Nat.le_of_ble_eq_true rfl⟩) hS (fun q _ h => hFc q h) hFc (fun u t H1 locs ht9 hvm hr4948 hB hz1 hk1 hS => ?_)
                obtain ⟨n4949, n4950, n4951, n4952, n4953, xr4948_0, xr4948_1, rfl⟩ := hr4948
                have hn4949 : ∀ j, inb (bA 20 2 j) (n4949 j) := fun j => full_i _
                obtain ⟨hP, hD⟩ := hB
                rw [ht9] at hP
                generalize H1 = H at hP hS ⊢
                have hP : va_P (dC, dI) classes (WX h g ca (u2 (u2 iv 2 6 n4952) 2 7 n4953) lv (u2 (u2 fa 2 2 n2) 20 2 n4949) (u2 (u2 la 20 0 n4950) 20 1 n4951)) H := hP
                have hD : va_D A (WX h g ca (u2 (u2 iv 2 6 n4952) 2 7 n4953) lv (u2 (u2 fa 2 2 n2) 20 2 n4949) (u2 (u2 la 20 0 n4950) 20 1 n4951)) := (show va_D _ (WX h g ca (u2 (u2 iv 2 6 n4952) 2 7 n4953) lv (u2 (u2 fa 2 2 n2) 20 2 n4949) (u2 (u2 la 20 0 n4950) 20 1 n4951)) from hD).weaken (fun _ _ _ h => hFc _ h)
                have xr4948_0 : ∀ j : Nat, j < 2 → n4950 j = w4890_b_20_0 j ∧ n4951 j = w4890_b_20_1 j := xr4948_0
                have xr4948_1 : ∀ (pt : Int32) (w0 f0 : Nat), pt.toInt = ((iv 2 5) : Int32).toInt → (0 : Int32).toInt = (oN w0).toInt → (0 : Int32).toInt = (oN f0).toInt → (n4952 : Int32).toInt = (oN (w0 + nT nO (fun q : Nat => ((fa 10 0) (9 * ((n2 q).toInt).toNat + 4)).toInt64) (fun q : Nat => ((fa 10 0) (9 * ((n2 q).toInt).toNat + 3)).toInt64) (((r1 : Int32).toInt).toNat - ((0 : Int32).toInt).toNat) ((0 : Int32).toInt).toNat 8 (w4890_b_20_1 1) (w4890_b_20_0 1))).toInt ∧ (n4953 : Int32).toInt = (oN (f0 + nT (nF (w4890_b_20_1 0) (w4890_b_20_0 0) pt) (fun q : Nat => ((fa 10 0) (9 * ((n2 q).toInt).toNat + 4)).toInt64) (fun q : Nat => ((fa 10 0) (9 * ((n2 q).toInt).toNat + 3)).toInt64) (((r1 : Int32).toInt).toNat - ((0 : Int32).toInt).toNat) ((0 : Int32).toInt).toNat 8 (w4890_b_20_1 1) (w4890_b_20_0 1))).toInt := xr4948_1
                refine lv_bipush (v := 100) hx hb dX2_fewest_61 (by decide) ?_
                refine lv_aload_n hx hb dX2_fewest_63 rfl (lv_at hl 2 rfl) ?_
                refine gX_2_7 hx hb ht hown hK hP m_311 (v := n4953) rfl dX2_fewest_64 ?_
                refine lv_imul hx hb dX2_fewest_67 ?_
                refine lv_topi (fun v4954 ev4954 => ?_)
                refine lv_iload_n hx hb dX2_fewest_68 rfl (lv_at hl 3 rfl) ?_
                refine lv_aload_n hx hb dX2_fewest_69 rfl (lv_at hl 2 rfl) ?_
                refine gX_2_6 hx hb ht hown hK hP m_310 (v := n4952) rfl dX2_fewest_70 ?_
                refine lv_imul hx hb dX2_fewest_73 ?_
                refine lv_topi (fun v4955 ev4955 => ?_)
                refine lv_icmp_gt (tgt := 79) hx hb dX2_fewest_74 (by decide) (fun c4956 => ?_) (fun c4956 => ?_)
                · have fc4956 := z_lt (rfl : (v4955).toInt = _) (rfl : (v4954).toInt = _) c4956
                  refine lv_iinc (v := 9) (lv' := [(3, .int 9), (2, .int r1), (0, .ref (g 11 6)), (1, .int a)]) hx hb dX2_fewest_79 hl (k := 0) rfl (by decide) (by decide) rfl (fun ls hl => ?_)
                  refine lv_goto (tgt := 39) hx hb dX2_fewest_82 (by decide) ?_
                  have : (9 : Int32).toInt = 9 := (by decide)
                  exact ih4891 9 n4952 n4953 n4949 n4950 n4951 ⟨by decide, by decide⟩ hn4949 (show n4951 0 = lsI (fun q : Nat => ((fa 10 0) (9 * ((n2 q).toInt).toNat + 4)).toInt64) ((r1 : Int32).toInt).toNat ∧ n4950 0 = lsI (fun q : Nat => ((fa 10 0) (9 * ((n2 q).toInt).toNat + 3)).toInt64) ((r1 : Int32).toInt).toNat ∧ n4951 1 = 0 ∧ n4950 1 = 0 from (by have k0 := xr4948_0 0 (by decide); have k1 := xr4948_0 1 (by decide); rw [k0.1, k0.2, k1.1, k1.2]; exact hq4891_0)) (show ∀ pt : Int32, pt.toInt = (iv 2 5).toInt → ∀ z : Nat, 2 ≤ z → (z : Int) < (9 : Int32).toInt → ¬ enX (fun q : Nat => ((fa 10 0) (9 * ((n2 q).toInt).toNat + 4)).toInt64) (fun q : Nat => ((fa 10 0) (9 * ((n2 q).toInt).toNat + 3)).toInt64) ((r1 : Int32).toInt).toNat (lsI (fun q : Nat => ((fa 10 0) (9 * ((n2 q).toInt).toNat + 4)).toInt64) ((r1 : Int32).toInt).toNat) (lsI (fun q : Nat => ((fa 10 0) (9 * ((n2 q).toInt).toNat + 3)).toInt64) ((r1 : Int32).toInt).toNat) pt a z from (fun pt hpt z h1 h2 => by
                        have hp9 := xr4948_1 pt 0 0 hpt (by decide) (by decide)
                        have hq9 := hq4891_0
                        rw [show ((0 : Int32).toInt).toNat = 0 from by decide, Nat.sub_zero, Nat.zero_add, Nat.zero_add, hq9.1, hq9.2.1, hq9.2.2.1, hq9.2.2.2] at hp9
                        have hw9 := Int32.toInt_inj.mp hp9.1
                        have hf9 := Int32.toInt_inj.mp hp9.2
                        have hE9 : enX (fun q : Nat => ((fa 10 0) (9 * ((n2 q).toInt).toNat + 4)).toInt64) (fun q : Nat => ((fa 10 0) (9 * ((n2 q).toInt).toNat + 3)).toInt64) ((r1 : Int32).toInt).toNat (lsI (fun q : Nat => ((fa 10 0) (9 * ((n2 q).toInt).toNat + 4)).toInt64) ((r1 : Int32).toInt).toNat) (lsI (fun q : Nat => ((fa 10 0) (9 * ((n2 q).toInt).toNat + 3)).toInt64) ((r1 : Int32).toInt).toNat) pt a 8 ↔ (v4954 : Int32).toInt ≤ (v4955 : Int32).toInt := by
                          unfold enX
                          rw [ev4954, ev4955, hw9, hf9]
                        by_cases hz : z = 8
                        · rw [hz]; exact fun y => absurd (hE9.mp y) (by omega)
                        · exact hq4891_1 pt hpt z h1 (by omega))) (show 2 ≤ (9 : Int32).toInt from by omega) (by omega) _ _ ls hP hD hS (lv_sub hl [0, 1, 2, 3] rfl)
                · have fc4956 := z_nlt (rfl : (v4955).toInt = _) (rfl : (v4954).toInt = _) c4956
                  refine lv_iload_n hx hb dX2_fewest_77 rfl (lv_at hl 0 rfl) ?_
                  have : (8 : Int32).toInt = 8 := (by decide)
                  have hP9 : va_P (dC, dI) classes (WX h g ca (u2 (u2 iv 2 6 n4952) 2 7 n4953) lv (u2 (u2 fa 2 2 n2) 20 2 n4949) (u2 (u2 la 20 0 n4950) 20 1 n4951)) H := hP
                  have hD9 : va_D A (WX h g ca (u2 (u2 iv 2 6 n4952) 2 7 n4953) lv (u2 (u2 fa 2 2 n2) 20 2 n4949) (u2 (u2 la 20 0 n4950) 20 1 n4951)) := hD
                  exact W.iret (v := 8) hx hb hr (fun t ht9 hW => ⟨⟨8, ((u2 (u2 iv 2 6 n4952) 2 7 n4953), lv, (u2 (u2 fa 2 2 n2) 20 2 n4949), (u2 (u2 la 20 0 n4950) 20 1 n4951)), rfl, ⟨n2, n4949, n4950, n4951, n4952, n4953, hn2, (show ∀ pt : Int32, pt.toInt = (iv 2 5).toInt → NeR (neX (fa 10 0) (iv 2 3).toInt (iv 2 4).toInt ((iv 10 1).toInt).toNat pt a) (lsP (cxP (fa 10 0) (iv 2 3).toInt (iv 2 4).toInt 0) ((iv 10 1).toInt).toNat).length (8 : Int32).toInt from (fun pt hpt => by
                        have hl9 := xr1_0
                        have ha9 := xr1_1
                        rw [show (0 : Int32).toInt = 0 from by decide] at hl9 ha9
                        have hn9 : ((r1 : Int32).toInt).toNat = (lsP (cxP (fa 10 0) (iv 2 3).toInt (iv 2 4).toInt 0) ((iv 10 1).toInt).toNat).length := by omega
                        have hp9 := xr4948_1 pt 0 0 hpt (by decide) (by decide)
                        have hq9 := hq4891_0
                        rw [show ((0 : Int32).toInt).toNat = 0 from by decide, Nat.sub_zero, Nat.zero_add, Nat.zero_add, hq9.1, hq9.2.1, hq9.2.2.1, hq9.2.2.2] at hp9
                        have hw9 := Int32.toInt_inj.mp hp9.1
                        have hf9 := Int32.toInt_inj.mp hp9.2
                        have hE9 : enX (fun q : Nat => ((fa 10 0) (9 * ((n2 q).toInt).toNat + 4)).toInt64) (fun q : Nat => ((fa 10 0) (9 * ((n2 q).toInt).toNat + 3)).toInt64) ((r1 : Int32).toInt).toNat (lsI (fun q : Nat => ((fa 10 0) (9 * ((n2 q).toInt).toNat + 4)).toInt64) ((r1 : Int32).toInt).toNat) (lsI (fun q : Nat => ((fa 10 0) (9 * ((n2 q).toInt).toNat + 3)).toInt64) ((r1 : Int32).toInt).toNat) pt a 8 ↔ (v4954 : Int32).toInt ≤ (v4955 : Int32).toInt := by
                          unfold enX
                          rw [ev4954, ev4955, hw9, hf9]
                        refine NeR_cg (ne_cl ha9) ?_
                        rw [← hn9]
                        exact Or.inl ⟨8, by decide, by omega, hE9.mpr (by omega), fun z h1 h2 => hq4891_1 pt hpt z h1 (by omega), by omega⟩)), ⟨by decide, by decide⟩, rfl⟩, by rw [ht9]; exact hP9, hD9⟩, hS.F ht9⟩) hS.2.2 dX2_fewest_78
              · obtain rfl : x4890_3 = 9 := z_of (by decide) q4893
                have : (9 : Int32).toInt = 9 := by decide
                have hFc := free_all hD hS hA
                refine va_callv (va_runV (As := [.int 9, .int 0, .int r1]) (rest := []) ⟨hx, hb, hml, hown, ht⟩ (c_X2_takeSome_w9 l dC dI H.size h g ca (u2 (u2 iv 2 6 0) 2 7 0) lv (u2 (u2 fa 2 2 n2) 20 2 w4890_a_20_2) (u2 (u2 la 20 0 w4890_b_20_0) 20 1 w4890_b_20_1) (IX_a (c := 20) (k := 2) (IX_a (c := 2) (k := 2) (IX_i (c := 2) (k := 7) (IX_i (c := 2) (k := 6) hI (full_i _)) (full_i _)) hn2) hw4890_a_20_2) 0 r1 ⟨by decide, by decide⟩ ⟨by omega, by omega⟩) (kV 3 ht m_933 m_935 m_38 m_85 m_936 rfl rfl hd_X2_takeSome_v ⟨Nat.le_of_ble_eq_true rfl, Nat.le_of_ble_eq_true rfl⟩) (vW hP hK hD (rX_2 hK hP)) rfl rfl hl.1 rfl (lv_room (Nat.le_of_ble_eq_true rfl)) dX2_fewest_58 ⟨Nat.le_of_ble_eq_true rfl, Nat.le_of_ble_eq_true rfl⟩) hS (fun q _ h => hFc q h) hFc (fun u t H1 locs ht9 hvm hr4957 hB hz1 hk1 hS => ?_)
                obtain ⟨n4958, n4959, n4960, n4961, n4962, xr4957_0, xr4957_1, rfl⟩ := hr4957
                have hn4958 : ∀ j, inb (bA 20 2 j) (n4958 j) := fun j => full_i _
                obtain ⟨hP, hD⟩ := hB
                rw [ht9] at hP
                generalize H1 = H at hP hS ⊢
                have hP : va_P (dC, dI) classes (WX h g ca (u2 (u2 iv 2 6 n4961) 2 7 n4962) lv (u2 (u2 fa 2 2 n2) 20 2 n4958) (u2 (u2 la 20 0 n4959) 20 1 n4960)) H := hP
                have hD : va_D A (WX h g ca (u2 (u2 iv 2 6 n4961) 2 7 n4962) lv (u2 (u2 fa 2 2 n2) 20 2 n4958) (u2 (u2 la 20 0 n4959) 20 1 n4960)) := (show va_D _ (WX h g ca (u2 (u2 iv 2 6 n4961) 2 7 n4962) lv (u2 (u2 fa 2 2 n2) 20 2 n4958) (u2 (u2 la 20 0 n4959) 20 1 n4960)) from hD).weaken (fun _ _ _ h => hFc _ h)
                have xr4957_0 : ∀ j : Nat, j < 2 → n4959 j = w4890_b_20_0 j ∧ n4960 j = w4890_b_20_1 j := xr4957_0
                have xr4957_1 : ∀ (pt : Int32) (w0 f0 : Nat), pt.toInt = ((iv 2 5) : Int32).toInt → (0 : Int32).toInt = (oN w0).toInt → (0 : Int32).toInt = (oN f0).toInt → (n4961 : Int32).toInt = (oN (w0 + nT nO (fun q : Nat => ((fa 10 0) (9 * ((n2 q).toInt).toNat + 4)).toInt64) (fun q : Nat => ((fa 10 0) (9 * ((n2 q).toInt).toNat + 3)).toInt64) (((r1 : Int32).toInt).toNat - ((0 : Int32).toInt).toNat) ((0 : Int32).toInt).toNat 9 (w4890_b_20_1 1) (w4890_b_20_0 1))).toInt ∧ (n4962 : Int32).toInt = (oN (f0 + nT (nF (w4890_b_20_1 0) (w4890_b_20_0 0) pt) (fun q : Nat => ((fa 10 0) (9 * ((n2 q).toInt).toNat + 4)).toInt64) (fun q : Nat => ((fa 10 0) (9 * ((n2 q).toInt).toNat + 3)).toInt64) (((r1 : Int32).toInt).toNat - ((0 : Int32).toInt).toNat) ((0 : Int32).toInt).toNat 9 (w4890_b_20_1 1) (w4890_b_20_0 1))).toInt := xr4957_1
                refine lv_bipush (v := 100) hx hb dX2_fewest_61 (by decide) ?_
                refine lv_aload_n hx hb dX2_fewest_63 rfl (lv_at hl 2 rfl) ?_
                refine gX_2_7 hx hb ht hown hK hP m_311 (v := n4962) rfl dX2_fewest_64 ?_
                refine lv_imul hx hb dX2_fewest_67 ?_
                refine lv_topi (fun v4963 ev4963 => ?_)
                refine lv_iload_n hx hb dX2_fewest_68 rfl (lv_at hl 3 rfl) ?_
                refine lv_aload_n hx hb dX2_fewest_69 rfl (lv_at hl 2 rfl) ?_
                refine gX_2_6 hx hb ht hown hK hP m_310 (v := n4961) rfl dX2_fewest_70 ?_
                refine lv_imul hx hb dX2_fewest_73 ?_
                refine lv_topi (fun v4964 ev4964 => ?_)
                refine lv_icmp_gt (tgt := 79) hx hb dX2_fewest_74 (by decide) (fun c4965 => ?_) (fun c4965 => ?_)
                · have fc4965 := z_lt (rfl : (v4964).toInt = _) (rfl : (v4963).toInt = _) c4965
                  refine lv_iinc (v := 10) (lv' := [(3, .int 10), (2, .int r1), (0, .ref (g 11 6)), (1, .int a)]) hx hb dX2_fewest_79 hl (k := 0) rfl (by decide) (by decide) rfl (fun ls hl => ?_)
                  refine lv_goto (tgt := 39) hx hb dX2_fewest_82 (by decide) ?_
                  have : (10 : Int32).toInt = 10 := (by decide)
                  exact ih4891 10 n4961 n4962 n4958 n4959 n4960 ⟨by decide, by decide⟩ hn4958 (show n4960 0 = lsI (fun q : Nat => ((fa 10 0) (9 * ((n2 q).toInt).toNat + 4)).toInt64) ((r1 : Int32).toInt).toNat ∧ n4959 0 = lsI (fun q : Nat => ((fa 10 0) (9 * ((n2 q).toInt).toNat + 3)).toInt64) ((r1 : Int32).toInt).toNat ∧ n4960 1 = 0 ∧ n4959 1 = 0 from (by have k0 := xr4957_0 0 (by decide); have k1 := xr4957_0 1 (by decide); rw [k0.1, k0.2, k1.1, k1.2]; exact hq4891_0)) (show ∀ pt : Int32, pt.toInt = (iv 2 5).toInt → ∀ z : Nat, 2 ≤ z → (z : Int) < (10 : Int32).toInt → ¬ enX (fun q : Nat => ((fa 10 0) (9 * ((n2 q).toInt).toNat + 4)).toInt64) (fun q : Nat => ((fa 10 0) (9 * ((n2 q).toInt).toNat + 3)).toInt64) ((r1 : Int32).toInt).toNat (lsI (fun q : Nat => ((fa 10 0) (9 * ((n2 q).toInt).toNat + 4)).toInt64) ((r1 : Int32).toInt).toNat) (lsI (fun q : Nat => ((fa 10 0) (9 * ((n2 q).toInt).toNat + 3)).toInt64) ((r1 : Int32).toInt).toNat) pt a z from (fun pt hpt z h1 h2 => by
                        have hp9 := xr4957_1 pt 0 0 hpt (by decide) (by decide)
                        have hq9 := hq4891_0
                        rw [show ((0 : Int32).toInt).toNat = 0 from by decide, Nat.sub_zero, Nat.zero_add, Nat.zero_add, hq9.1, hq9.2.1, hq9.2.2.1, hq9.2.2.2] at hp9
                        have hw9 := Int32.toInt_inj.mp hp9.1
                        have hf9 := Int32.toInt_inj.mp hp9.2
                        have hE9 : enX (fun q : Nat => ((fa 10 0) (9 * ((n2 q).toInt).toNat + 4)).toInt64) (fun q : Nat => ((fa 10 0) (9 * ((n2 q).toInt).toNat + 3)).toInt64) ((r1 : Int32).toInt).toNat (lsI (fun q : Nat => ((fa 10 0) (9 * ((n2 q).toInt).toNat + 4)).toInt64) ((r1 : Int32).toInt).toNat) (lsI (fun q : Nat => ((fa 10 0) (9 * ((n2 q).toInt).toNat + 3)).toInt64) ((r1 : Int32).toInt).toNat) pt a 9 ↔ (v4963 : Int32).toInt ≤ (v4964 : Int32).toInt := by
                          unfold enX
                          rw [ev4963, ev4964, hw9, hf9]
                        by_cases hz : z = 9
                        · rw [hz]; exact fun y => absurd (hE9.mp y) (by omega)
                        · exact hq4891_1 pt hpt z h1 (by omega))) (show 2 ≤ (10 : Int32).toInt from by omega) (by omega) _ _ ls hP hD hS (lv_sub hl [0, 1, 2, 3] rfl)
                · have fc4965 := z_nlt (rfl : (v4964).toInt = _) (rfl : (v4963).toInt = _) c4965
                  refine lv_iload_n hx hb dX2_fewest_77 rfl (lv_at hl 0 rfl) ?_
                  have : (9 : Int32).toInt = 9 := (by decide)
                  have hP9 : va_P (dC, dI) classes (WX h g ca (u2 (u2 iv 2 6 n4961) 2 7 n4962) lv (u2 (u2 fa 2 2 n2) 20 2 n4958) (u2 (u2 la 20 0 n4959) 20 1 n4960)) H := hP
                  have hD9 : va_D A (WX h g ca (u2 (u2 iv 2 6 n4961) 2 7 n4962) lv (u2 (u2 fa 2 2 n2) 20 2 n4958) (u2 (u2 la 20 0 n4959) 20 1 n4960)) := hD
                  exact W.iret (v := 9) hx hb hr (fun t ht9 hW => ⟨⟨9, ((u2 (u2 iv 2 6 n4961) 2 7 n4962), lv, (u2 (u2 fa 2 2 n2) 20 2 n4958), (u2 (u2 la 20 0 n4959) 20 1 n4960)), rfl, ⟨n2, n4958, n4959, n4960, n4961, n4962, hn2, (show ∀ pt : Int32, pt.toInt = (iv 2 5).toInt → NeR (neX (fa 10 0) (iv 2 3).toInt (iv 2 4).toInt ((iv 10 1).toInt).toNat pt a) (lsP (cxP (fa 10 0) (iv 2 3).toInt (iv 2 4).toInt 0) ((iv 10 1).toInt).toNat).length (9 : Int32).toInt from (fun pt hpt => by
                        have hl9 := xr1_0
                        have ha9 := xr1_1
                        rw [show (0 : Int32).toInt = 0 from by decide] at hl9 ha9
                        have hn9 : ((r1 : Int32).toInt).toNat = (lsP (cxP (fa 10 0) (iv 2 3).toInt (iv 2 4).toInt 0) ((iv 10 1).toInt).toNat).length := by omega
                        have hp9 := xr4957_1 pt 0 0 hpt (by decide) (by decide)
                        have hq9 := hq4891_0
                        rw [show ((0 : Int32).toInt).toNat = 0 from by decide, Nat.sub_zero, Nat.zero_add, Nat.zero_add, hq9.1, hq9.2.1, hq9.2.2.1, hq9.2.2.2] at hp9
                        have hw9 := Int32.toInt_inj.mp hp9.1
                        have hf9 := Int32.toInt_inj.mp hp9.2
                        have hE9 : enX (fun q : Nat => ((fa 10 0) (9 * ((n2 q).toInt).toNat + 4)).toInt64) (fun q : Nat => ((fa 10 0) (9 * ((n2 q).toInt).toNat + 3)).toInt64) ((r1 : Int32).toInt).toNat (lsI (fun q : Nat => ((fa 10 0) (9 * ((n2 q).toInt).toNat + 4)).toInt64) ((r1 : Int32).toInt).toNat) (lsI (fun q : Nat => ((fa 10 0) (9 * ((n2 q).toInt).toNat + 3)).toInt64) ((r1 : Int32).toInt).toNat) pt a 9 ↔ (v4963 : Int32).toInt ≤ (v4964 : Int32).toInt := by
                          unfold enX
                          rw [ev4963, ev4964, hw9, hf9]
                        refine NeR_cg (ne_cl ha9) ?_
                        rw [← hn9]
                        exact Or.inl ⟨9, by decide, by omega, hE9.mpr (by omega), fun z h1 h2 => hq4891_1 pt hpt z h1 (by omega), by omega⟩)), ⟨by decide, by decide⟩, rfl⟩, by rw [ht9]; exact hP9, hD9⟩, hS.F ht9⟩) hS.2.2 dX2_fewest_78
              · obtain rfl : x4890_3 = 10 := z_of (by decide) q4893
                have : (10 : Int32).toInt = 10 := by decide
                have hFc := free_all hD hS hA
                refine va_callv (va_runV (As := [.int 10, .int 0, .int r1]) (rest := []) ⟨hx, hb, hml, hown, ht⟩ (c_X2_takeSome_w10 l dC dI H.size h g ca (u2 (u2 iv 2 6 0) 2 7 0) lv (u2 (u2 fa 2 2 n2) 20 2 w4890_a_20_2) (u2 (u2 la 20 0 w4890_b_20_0) 20 1 w4890_b_20_1) (IX_a (c := 20) (k := 2) (IX_a (c := 2) (k := 2) (IX_i (c := 2) (k := 7) (IX_i (c := 2) (k := 6) hI (full_i _)) (full_i _)) hn2) hw4890_a_20_2) 0 r1 ⟨by decide, by decide⟩ ⟨by omega, by omega⟩) (kV 3 ht m_933 m_935 m_38 m_85 m_936 rfl rfl hd_X2_takeSome_v ⟨Nat.le_of_ble_eq_true rfl, Nat.le_of_ble_eq_true rfl⟩) (vW hP hK hD (rX_2 hK hP)) rfl rfl hl.1 rfl (lv_room (Nat.le_of_ble_eq_true rfl)) dX2_fewest_58 ⟨Nat.le_of_ble_eq_true rfl, Nat.le_of_ble_eq_true rfl⟩) hS (fun q _ h => hFc q h) hFc (fun u t H1 locs ht9 hvm hr4966 hB hz1 hk1 hS => ?_)
                obtain ⟨n4967, n4968, n4969, n4970, n4971, xr4966_0, xr4966_1, rfl⟩ := hr4966
                have hn4967 : ∀ j, inb (bA 20 2 j) (n4967 j) := fun j => full_i _
                obtain ⟨hP, hD⟩ := hB
                rw [ht9] at hP
                generalize H1 = H at hP hS ⊢
                have hP : va_P (dC, dI) classes (WX h g ca (u2 (u2 iv 2 6 n4970) 2 7 n4971) lv (u2 (u2 fa 2 2 n2) 20 2 n4967) (u2 (u2 la 20 0 n4968) 20 1 n4969)) H := hP
                have hD : va_D A (WX h g ca (u2 (u2 iv 2 6 n4970) 2 7 n4971) lv (u2 (u2 fa 2 2 n2) 20 2 n4967) (u2 (u2 la 20 0 n4968) 20 1 n4969)) := (show va_D _ (WX h g ca (u2 (u2 iv 2 6 n4970) 2 7 n4971) lv (u2 (u2 fa 2 2 n2) 20 2 n4967) (u2 (u2 la 20 0 n4968) 20 1 n4969)) from hD).weaken (fun _ _ _ h => hFc _ h)
                have xr4966_0 : ∀ j : Nat, j < 2 → n4968 j = w4890_b_20_0 j ∧ n4969 j = w4890_b_20_1 j := xr4966_0
                have xr4966_1 : ∀ (pt : Int32) (w0 f0 : Nat), pt.toInt = ((iv 2 5) : Int32).toInt → (0 : Int32).toInt = (oN w0).toInt → (0 : Int32).toInt = (oN f0).toInt → (n4970 : Int32).toInt = (oN (w0 + nT nO (fun q : Nat => ((fa 10 0) (9 * ((n2 q).toInt).toNat + 4)).toInt64) (fun q : Nat => ((fa 10 0) (9 * ((n2 q).toInt).toNat + 3)).toInt64) (((r1 : Int32).toInt).toNat - ((0 : Int32).toInt).toNat) ((0 : Int32).toInt).toNat 10 (w4890_b_20_1 1) (w4890_b_20_0 1))).toInt ∧ (n4971 : Int32).toInt = (oN (f0 + nT (nF (w4890_b_20_1 0) (w4890_b_20_0 0) pt) (fun q : Nat => ((fa 10 0) (9 * ((n2 q).toInt).toNat + 4)).toInt64) (fun q : Nat => ((fa 10 0) (9 * ((n2 q).toInt).toNat + 3)).toInt64) (((r1 : Int32).toInt).toNat - ((0 : Int32).toInt).toNat) ((0 : Int32).toInt).toNat 10 (w4890_b_20_1 1) (w4890_b_20_0 1))).toInt := xr4966_1
                refine lv_bipush (v := 100) hx hb dX2_fewest_61 (by decide) ?_
                refine lv_aload_n hx hb dX2_fewest_63 rfl (lv_at hl 2 rfl) ?_
                refine gX_2_7 hx hb ht hown hK hP m_311 (v := n4971) rfl dX2_fewest_64 ?_
                refine lv_imul hx hb dX2_fewest_67 ?_
                refine lv_topi (fun v4972 ev4972 => ?_)
                refine lv_iload_n hx hb dX2_fewest_68 rfl (lv_at hl 3 rfl) ?_
                refine lv_aload_n hx hb dX2_fewest_69 rfl (lv_at hl 2 rfl) ?_
                refine gX_2_6 hx hb ht hown hK hP m_310 (v := n4970) rfl dX2_fewest_70 ?_
                refine lv_imul hx hb dX2_fewest_73 ?_
                refine lv_topi (fun v4973 ev4973 => ?_)
                refine lv_icmp_gt (tgt := 79) hx hb dX2_fewest_74 (by decide) (fun c4974 => ?_) (fun c4974 => ?_)
                · have fc4974 := z_lt (rfl : (v4973).toInt = _) (rfl : (v4972).toInt = _) c4974
                  refine lv_iinc (v := 11) (lv' := [(3, .int 11), (2, .int r1), (0, .ref (g 11 6)), (1, .int a)]) hx hb dX2_fewest_79 hl (k := 0) rfl (by decide) (by decide) rfl (fun ls hl => ?_)
                  refine lv_goto (tgt := 39) hx hb dX2_fewest_82 (by decide) ?_
                  have : (11 : Int32).toInt = 11 := (by decide)
                  exact ih4891 11 n4970 n4971 n4967 n4968 n4969 ⟨by decide, by decide⟩ hn4967 (show n4969 0 = lsI (fun q : Nat => ((fa 10 0) (9 * ((n2 q).toInt).toNat + 4)).toInt64) ((r1 : Int32).toInt).toNat ∧ n4968 0 = lsI (fun q : Nat => ((fa 10 0) (9 * ((n2 q).toInt).toNat + 3)).toInt64) ((r1 : Int32).toInt).toNat ∧ n4969 1 = 0 ∧ n4968 1 = 0 from (by have k0 := xr4966_0 0 (by decide); have k1 := xr4966_0 1 (by decide); rw [k0.1, k0.2, k1.1, k1.2]; exact hq4891_0)) (show ∀ pt : Int32, pt.toInt = (iv 2 5).toInt → ∀ z : Nat, 2 ≤ z → (z : Int) < (11 : Int32).toInt → ¬ enX (fun q : Nat => ((fa 10 0) (9 * ((n2 q).toInt).toNat + 4)).toInt64) (fun q : Nat => ((fa 10 0) (9 * ((n2 q).toInt).toNat + 3)).toInt64) ((r1 : Int32).toInt).toNat (lsI (fun q : Nat => ((fa 10 0) (9 * ((n2 q).toInt).toNat + 4)).toInt64) ((r1 : Int32).toInt).toNat) (lsI (fun q : Nat => ((fa 10 0) (9 * ((n2 q).toInt).toNat + 3)).toInt64) ((r1 : Int32).toInt).toNat) pt a z from (fun pt hpt z h1 h2 => by
                        have hp9 := xr4966_1 pt 0 0 hpt (by decide) (by decide)
                        have hq9 := hq4891_0
                        rw [show ((0 : Int32).toInt).toNat = 0 from by decide, Nat.sub_zero, Nat.zero_add, Nat.zero_add, hq9.1, hq9.2.1, hq9.2.2.1, hq9.2.2.2] at hp9
                        have hw9 := Int32.toInt_inj.mp hp9.1
                        have hf9 := Int32.toInt_inj.mp hp9.2
                        have hE9 : enX (fun q : Nat => ((fa 10 0) (9 * ((n2 q).toInt).toNat + 4)).toInt64) (fun q : Nat => ((fa 10 0) (9 * ((n2 q).toInt).toNat + 3)).toInt64) ((r1 : Int32).toInt).toNat (lsI (fun q : Nat => ((fa 10 0) (9 * ((n2 q).toInt).toNat + 4)).toInt64) ((r1 : Int32).toInt).toNat) (lsI (fun q : Nat => ((fa 10 0) (9 * ((n2 q).toInt).toNat + 3)).toInt64) ((r1 : Int32).toInt).toNat) pt a 10 ↔ (v4972 : Int32).toInt ≤ (v4973 : Int32).toInt := by
                          unfold enX
                          rw [ev4972, ev4973, hw9, hf9]
                        by_cases hz : z = 10
                        · rw [hz]; exact fun y => absurd (hE9.mp y) (by omega)
                        · exact hq4891_1 pt hpt z h1 (by omega))) (show 2 ≤ (11 : Int32).toInt from by omega) (by omega) _ _ ls hP hD hS (lv_sub hl [0, 1, 2, 3] rfl)
                · have fc4974 := z_nlt (rfl : (v4973).toInt = _) (rfl : (v4972).toInt = _) c4974
                  refine lv_iload_n hx hb dX2_fewest_77 rfl (lv_at hl 0 rfl) ?_
                  have : (10 : Int32).toInt = 10 := (by decide)
                  have hP9 : va_P (dC, dI) classes (WX h g ca (u2 (u2 iv 2 6 n4970) 2 7 n4971) lv (u2 (u2 fa 2 2 n2) 20 2 n4967) (u2 (u2 la 20 0 n4968) 20 1 n4969)) H := hP
                  have hD9 : va_D A (WX h g ca (u2 (u2 iv 2 6 n4970) 2 7 n4971) lv (u2 (u2 fa 2 2 n2) 20 2 n4967) (u2 (u2 la 20 0 n4968) 20 1 n4969)) := hD
                  exact W.iret (v := 10) hx hb hr (fun t ht9 hW => ⟨⟨10, ((u2 (u2 iv 2 6 n4970) 2 7 n4971), lv, (u2 (u2 fa 2 2 n2) 20 2 n4967), (u2 (u2 la 20 0 n4968) 20 1 n4969)), rfl, ⟨n2, n4967, n4968, n4969, n4970, n4971, hn2, (show ∀ pt : Int32, pt.toInt = (iv 2 5).toInt → NeR (neX (fa 10 0) (iv 2 3).toInt (iv 2 4).toInt ((iv 10 1).toInt).toNat pt a) (lsP (cxP (fa 10 0) (iv 2 3).toInt (iv 2 4).toInt 0) ((iv 10 1).toInt).toNat).length (10 : Int32).toInt from (fun pt hpt => by
                        have hl9 := xr1_0
                        have ha9 := xr1_1
                        rw [show (0 : Int32).toInt = 0 from by decide] at hl9 ha9
                        have hn9 : ((r1 : Int32).toInt).toNat = (lsP (cxP (fa 10 0) (iv 2 3).toInt (iv 2 4).toInt 0) ((iv 10 1).toInt).toNat).length := by omega
                        have hp9 := xr4966_1 pt 0 0 hpt (by decide) (by decide)
                        have hq9 := hq4891_0
                        rw [show ((0 : Int32).toInt).toNat = 0 from by decide, Nat.sub_zero, Nat.zero_add, Nat.zero_add, hq9.1, hq9.2.1, hq9.2.2.1, hq9.2.2.2] at hp9
                        have hw9 := Int32.toInt_inj.mp hp9.1
                        have hf9 := Int32.toInt_inj.mp hp9.2
                        have hE9 : enX (fun q : Nat => ((fa 10 0) (9 * ((n2 q).toInt).toNat + 4)).toInt64) (fun q : Nat => ((fa 10 0) (9 * ((n2 q).toInt).toNat + 3)).toInt64) ((r1 : Int32).toInt).toNat (lsI (fun q : Nat => ((fa 10 0) (9 * ((n2 q).toInt).toNat + 4)).toInt64) ((r1 : Int32).toInt).toNat) (lsI (fun q : Nat => ((fa 10 0) (9 * ((n2 q).toInt).toNat + 3)).toInt64) ((r1 : Int32).toInt).toNat) pt a 10 ↔ (v4972 : Int32).toInt ≤ (v4973 : Int32).toInt := by
                          unfold enX
                          rw [ev4972, ev4973, hw9, hf9]
                        refine NeR_cg (ne_cl ha9) ?_
                        rw [← hn9]
                        exact Or.inl ⟨10, by decide, by omega, hE9.mpr (by omega), fun z h1 h2 => hq4891_1 pt hpt z h1 (by omega), by omega⟩)), ⟨by decide, by decide⟩, rfl⟩, by rw [ht9]; exact hP9, hD9⟩, hS.F ht9⟩) hS.2.2 dX2_fewest_78
              · obtain rfl : x4890_3 = 11 := z_of (by decide) q4893
                have : (11 : Int32).toInt = 11 := by decide
                have hFc := free_all hD hS hA
                refine va_callv (va_runV (As := [.int 11, .int 0, .int r1]) (rest := []) ⟨hx, hb, hml, hown, ht⟩ (c_X2_takeSome_w11 l dC dI H.size h g ca (u2 (u2 iv 2 6 0) 2 7 0) lv (u2 (u2 fa 2 2 n2) 20 2 w4890_a_20_2) (u2 (u2 la 20 0 w4890_b_20_0) 20 1 w4890_b_20_1) (IX_a (c := 20) (k := 2) (IX_a (c := 2) (k := 2) (IX_i (c := 2) (k := 7) (IX_i (c := 2) (k := 6) hI (full_i _)) (full_i _)) hn2) hw4890_a_20_2) 0 r1 ⟨by decide, by decide⟩ ⟨by omega, by omega⟩) (kV 3 ht m_933 m_935 m_38 m_85 m_936 rfl rfl hd_X2_takeSome_v ⟨Nat.le_of_ble_eq_true rfl, Nat.le_of_ble_eq_true rfl⟩) (vW hP hK hD (rX_2 hK hP)) rfl rfl hl.1 rfl (lv_room (Nat.le_of_ble_eq_true rfl)) dX2_fewest_58 ⟨Nat.le_of_ble_eq_true rfl, Nat.le_of_ble_eq_true rfl⟩) hS (fun q _ h => hFc q h) hFc (fun u t H1 locs ht9 hvm hr4975 hB hz1 hk1 hS => ?_)
                obtain ⟨n4976, n4977, n4978, n4979, n4980, xr4975_0, xr4975_1, rfl⟩ := hr4975
                have hn4976 : ∀ j, inb (bA 20 2 j) (n4976 j) := fun j => full_i _
                obtain ⟨hP, hD⟩ := hB
                rw [ht9] at hP
                generalize H1 = H at hP hS ⊢
                have hP : va_P (dC, dI) classes (WX h g ca (u2 (u2 iv 2 6 n4979) 2 7 n4980) lv (u2 (u2 fa 2 2 n2) 20 2 n4976) (u2 (u2 la 20 0 n4977) 20 1 n4978)) H := hP
                have hD : va_D A (WX h g ca (u2 (u2 iv 2 6 n4979) 2 7 n4980) lv (u2 (u2 fa 2 2 n2) 20 2 n4976) (u2 (u2 la 20 0 n4977) 20 1 n4978)) := (show va_D _ (WX h g ca (u2 (u2 iv 2 6 n4979) 2 7 n4980) lv (u2 (u2 fa 2 2 n2) 20 2 n4976) (u2 (u2 la 20 0 n4977) 20 1 n4978)) from hD).weaken (fun _ _ _ h => hFc _ h)
                have xr4975_0 : ∀ j : Nat, j < 2 → n4977 j = w4890_b_20_0 j ∧ n4978 j = w4890_b_20_1 j := xr4975_0
                have xr4975_1 : ∀ (pt : Int32) (w0 f0 : Nat), pt.toInt = ((iv 2 5) : Int32).toInt → (0 : Int32).toInt = (oN w0).toInt → (0 : Int32).toInt = (oN f0).toInt → (n4979 : Int32).toInt = (oN (w0 + nT nO (fun q : Nat => ((fa 10 0) (9 * ((n2 q).toInt).toNat + 4)).toInt64) (fun q : Nat => ((fa 10 0) (9 * ((n2 q).toInt).toNat + 3)).toInt64) (((r1 : Int32).toInt).toNat - ((0 : Int32).toInt).toNat) ((0 : Int32).toInt).toNat 11 (w4890_b_20_1 1) (w4890_b_20_0 1))).toInt ∧ (n4980 : Int32).toInt = (oN (f0 + nT (nF (w4890_b_20_1 0) (w4890_b_20_0 0) pt) (fun q : Nat => ((fa 10 0) (9 * ((n2 q).toInt).toNat + 4)).toInt64) (fun q : Nat => ((fa 10 0) (9 * ((n2 q).toInt).toNat + 3)).toInt64) (((r1 : Int32).toInt).toNat - ((0 : Int32).toInt).toNat) ((0 : Int32).toInt).toNat 11 (w4890_b_20_1 1) (w4890_b_20_0 1))).toInt := xr4975_1
                refine lv_bipush (v := 100) hx hb dX2_fewest_61 (by decide) ?_
                refine lv_aload_n hx hb dX2_fewest_63 rfl (lv_at hl 2 rfl) ?_
                refine gX_2_7 hx hb ht hown hK hP m_311 (v := n4980) rfl dX2_fewest_64 ?_
                refine lv_imul hx hb dX2_fewest_67 ?_
                refine lv_topi (fun v4981 ev4981 => ?_)
                refine lv_iload_n hx hb dX2_fewest_68 rfl (lv_at hl 3 rfl) ?_
                refine lv_aload_n hx hb dX2_fewest_69 rfl (lv_at hl 2 rfl) ?_
                refine gX_2_6 hx hb ht hown hK hP m_310 (v := n4979) rfl dX2_fewest_70 ?_
                refine lv_imul hx hb dX2_fewest_73 ?_
                refine lv_topi (fun v4982 ev4982 => ?_)
                refine lv_icmp_gt (tgt := 79) hx hb dX2_fewest_74 (by decide) (fun c4983 => ?_) (fun c4983 => ?_)
                · have fc4983 := z_lt (rfl : (v4982).toInt = _) (rfl : (v4981).toInt = _) c4983
                  refine lv_iinc (v := 12) (lv' := [(3, .int 12), (2, .int r1), (0, .ref (g 11 6)), (1, .int a)]) hx hb dX2_fewest_79 hl (k := 0) rfl (by decide) (by decide) rfl (fun ls hl => ?_)
                  refine lv_goto (tgt := 39) hx hb dX2_fewest_82 (by decide) ?_
                  have : (12 : Int32).toInt = 12 := (by decide)
                  exact ih4891 12 n4979 n4980 n4976 n4977 n4978 ⟨by decide, by decide⟩ hn4976 (show n4978 0 = lsI (fun q : Nat => ((fa 10 0) (9 * ((n2 q).toInt).toNat + 4)).toInt64) ((r1 : Int32).toInt).toNat ∧ n4977 0 = lsI (fun q : Nat => ((fa 10 0) (9 * ((n2 q).toInt).toNat + 3)).toInt64) ((r1 : Int32).toInt).toNat ∧ n4978 1 = 0 ∧ n4977 1 = 0 from (by have k0 := xr4975_0 0 (by decide); have k1 := xr4975_0 1 (by decide); rw [k0.1, k0.2, k1.1, k1.2]; exact hq4891_0)) (show ∀ pt : Int32, pt.toInt = (iv 2 5).toInt → ∀ z : Nat, 2 ≤ z → (z : Int) < (12 : Int32).toInt → ¬ enX (fun q : Nat => ((fa 10 0) (9 * ((n2 q).toInt).toNat + 4)).toInt64) (fun q : Nat => ((fa 10 0) (9 * ((n2 q).toInt).toNat + 3)).toInt64) ((r1 : Int32).toInt).toNat (lsI (fun q : Nat => ((fa 10 0) (9 * ((n2 q).toInt).toNat + 4)).toInt64) ((r1 : Int32).toInt).toNat) (lsI (fun q : Nat => ((fa 10 0) (9 * ((n2 q).toInt).toNat + 3)).toInt64) ((r1 : Int32).toInt).toNat) pt a z from (fun pt hpt z h1 h2 => by
                        have hp9 := xr4975_1 pt 0 0 hpt (by decide) (by decide)
                        have hq9 := hq4891_0
                        rw [show ((0 : Int32).toInt).toNat = 0 from by decide, Nat.sub_zero, Nat.zero_add, Nat.zero_add, hq9.1, hq9.2.1, hq9.2.2.1, hq9.2.2.2] at hp9
                        have hw9 := Int32.toInt_inj.mp hp9.1
                        have hf9 := Int32.toInt_inj.mp hp9.2
                        have hE9 : enX (fun q : Nat => ((fa 10 0) (9 * ((n2 q).toInt).toNat + 4)).toInt64) (fun q : Nat => ((fa 10 0) (9 * ((n2 q).toInt).toNat + 3)).toInt64) ((r1 : Int32).toInt).toNat (lsI (fun q : Nat => ((fa 10 0) (9 * ((n2 q).toInt).toNat + 4)).toInt64) ((r1 : Int32).toInt).toNat) (lsI (fun q : Nat => ((fa 10 0) (9 * ((n2 q).toInt).toNat + 3)).toInt64) ((r1 : Int32).toInt).toNat) pt a 11 ↔ (v4981 : Int32).toInt ≤ (v4982 : Int32).toInt := by
                          unfold enX
                          rw [ev4981, ev4982, hw9, hf9]
                        by_cases hz : z = 11
                        · rw [hz]; exact fun y => absurd (hE9.mp y) (by omega)
                        · exact hq4891_1 pt hpt z h1 (by omega))) (show 2 ≤ (12 : Int32).toInt from by omega) (by omega) _ _ ls hP hD hS (lv_sub hl [0, 1, 2, 3] rfl)
                · have fc4983 := z_nlt (rfl : (v4982).toInt = _) (rfl : (v4981).toInt = _) c4983
                  refine lv_iload_n hx hb dX2_fewest_77 rfl (lv_at hl 0 rfl) ?_
                  have : (11 : Int32).toInt = 11 := (by decide)
                  have hP9 : va_P (dC, dI) classes (WX h g ca (u2 (u2 iv 2 6 n4979) 2 7 n4980) lv (u2 (u2 fa 2 2 n2) 20 2 n4976) (u2 (u2 la 20 0 n4977) 20 1 n4978)) H := hP
                  have hD9 : va_D A (WX h g ca (u2 (u2 iv 2 6 n4979) 2 7 n4980) lv (u2 (u2 fa 2 2 n2) 20 2 n4976) (u2 (u2 la 20 0 n4977) 20 1 n4978)) := hD
                  exact W.iret (v := 11) hx hb hr (fun t ht9 hW => ⟨⟨11, ((u2 (u2 iv 2 6 n4979) 2 7 n4980), lv, (u2 (u2 fa 2 2 n2) 20 2 n4976), (u2 (u2 la 20 0 n4977) 20 1 n4978)), rfl, ⟨n2, n4976, n4977, n4978, n4979, n4980, hn2, (show ∀ pt : Int32, pt.toInt = (iv 2 5).toInt → NeR (neX (fa 10 0) (iv 2 3).toInt (iv 2 4).toInt ((iv 10 1).toInt).toNat pt a) (lsP (cxP (fa 10 0) (iv 2 3).toInt (iv 2 4).toInt 0) ((iv 10 1).toInt).toNat).length (11 : Int32).toInt from (fun pt hpt => by
                        have hl9 := xr1_0
                        have ha9 := xr1_1
                        rw [show (0 : Int32).toInt = 0 from by decide] at hl9 ha9
                        have hn9 : ((r1 : Int32).toInt).toNat = (lsP (cxP (fa 10 0) (iv 2 3).toInt (iv 2 4).toInt 0) ((iv 10 1).toInt).toNat).length := by omega
                        have hp9 := xr4975_1 pt 0 0 hpt (by decide) (by decide)
                        have hq9 := hq4891_0
                        rw [show ((0 : Int32).toInt).toNat = 0 from by decide, Nat.sub_zero, Nat.zero_add, Nat.zero_add, hq9.1, hq9.2.1, hq9.2.2.1, hq9.2.2.2] at hp9
                        have hw9 := Int32.toInt_inj.mp hp9.1
                        have hf9 := Int32.toInt_inj.mp hp9.2
                        have hE9 : enX (fun q : Nat => ((fa 10 0) (9 * ((n2 q).toInt).toNat + 4)).toInt64) (fun q : Nat => ((fa 10 0) (9 * ((n2 q).toInt).toNat + 3)).toInt64) ((r1 : Int32).toInt).toNat (lsI (fun q : Nat => ((fa 10 0) (9 * ((n2 q).toInt).toNat + 4)).toInt64) ((r1 : Int32).toInt).toNat) (lsI (fun q : Nat => ((fa 10 0) (9 * ((n2 q).toInt).toNat + 3)).toInt64) ((r1 : Int32).toInt).toNat) pt a 11 ↔ (v4981 : Int32).toInt ≤ (v4982 : Int32).toInt := by
                          unfold enX
                          rw [ev4981, ev4982, hw9, hf9]
                        refine NeR_cg (ne_cl ha9) ?_
                        rw [← hn9]
                        exact Or.inl ⟨11, by decide, by omega, hE9.mpr (by omega), fun z h1 h2 => hq4891_1 pt hpt z h1 (by omega), by omega⟩)), ⟨by decide, by decide⟩, rfl⟩, by rw [ht9]; exact hP9, hD9⟩, hS.F ht9⟩) hS.2.2 dX2_fewest_78
              · obtain rfl : x4890_3 = 12 := z_of (by decide) q4893
                have : (12 : Int32).toInt = 12 := by decide
                have hFc := free_all hD hS hA
                refine va_callv (va_runV (As := [.int 12, .int 0, .int r1]) (rest := []) ⟨hx, hb, hml, hown, ht⟩ (c_X2_takeSome_w12 l dC dI H.size h g ca (u2 (u2 iv 2 6 0) 2 7 0) lv (u2 (u2 fa 2 2 n2) 20 2 w4890_a_20_2) (u2 (u2 la 20 0 w4890_b_20_0) 20 1 w4890_b_20_1) (IX_a (c := 20) (k := 2) (IX_a (c := 2) (k := 2) (IX_i (c := 2) (k := 7) (IX_i (c := 2) (k := 6) hI (full_i _)) (full_i _)) hn2) hw4890_a_20_2) 0 r1 ⟨by decide, by decide⟩ ⟨by omega, by omega⟩) (kV 3 ht m_933 m_935 m_38 m_85 m_936 rfl rfl hd_X2_takeSome_v ⟨Nat.le_of_ble_eq_true rfl, Nat.le_of_ble_eq_true rfl⟩) (vW hP hK hD (rX_2 hK hP)) rfl rfl hl.1 rfl (lv_room (Nat.le_of_ble_eq_true rfl)) dX2_fewest_58 ⟨Nat.le_of_ble_eq_true rfl, Nat.le_of_ble_eq_true rfl⟩) hS (fun q _ h => hFc q h) hFc (fun u t H1 locs ht9 hvm hr4984 hB hz1 hk1 hS => ?_)
                obtain ⟨n4985, n4986, n4987, n4988, n4989, xr4984_0, xr4984_1, rfl⟩ := hr4984
                have hn4985 : ∀ j, inb (bA 20 2 j) (n4985 j) := fun j => full_i _
                obtain ⟨hP, hD⟩ := hB
                rw [ht9] at hP
                generalize H1 = H at hP hS ⊢
                have hP : va_P (dC, dI) classes (WX h g ca (u2 (u2 iv 2 6 n4988) 2 7 n4989) lv (u2 (u2 fa 2 2 n2) 20 2 n4985) (u2 (u2 la 20 0 n4986) 20 1 n4987)) H := hP
                have hD : va_D A (WX h g ca (u2 (u2 iv 2 6 n4988) 2 7 n4989) lv (u2 (u2 fa 2 2 n2) 20 2 n4985) (u2 (u2 la 20 0 n4986) 20 1 n4987)) := (show va_D _ (WX h g ca (u2 (u2 iv 2 6 n4988) 2 7 n4989) lv (u2 (u2 fa 2 2 n2) 20 2 n4985) (u2 (u2 la 20 0 n4986) 20 1 n4987)) from hD).weaken (fun _ _ _ h => hFc _ h)
                have xr4984_0 : ∀ j : Nat, j < 2 → n4986 j = w4890_b_20_0 j ∧ n4987 j = w4890_b_20_1 j := xr4984_0
                have xr4984_1 : ∀ (pt : Int32) (w0 f0 : Nat), pt.toInt = ((iv 2 5) : Int32).toInt → (0 : Int32).toInt = (oN w0).toInt → (0 : Int32).toInt = (oN f0).toInt → (n4988 : Int32).toInt = (oN (w0 + nT nO (fun q : Nat => ((fa 10 0) (9 * ((n2 q).toInt).toNat + 4)).toInt64) (fun q : Nat => ((fa 10 0) (9 * ((n2 q).toInt).toNat + 3)).toInt64) (((r1 : Int32).toInt).toNat - ((0 : Int32).toInt).toNat) ((0 : Int32).toInt).toNat 12 (w4890_b_20_1 1) (w4890_b_20_0 1))).toInt ∧ (n4989 : Int32).toInt = (oN (f0 + nT (nF (w4890_b_20_1 0) (w4890_b_20_0 0) pt) (fun q : Nat => ((fa 10 0) (9 * ((n2 q).toInt).toNat + 4)).toInt64) (fun q : Nat => ((fa 10 0) (9 * ((n2 q).toInt).toNat + 3)).toInt64) (((r1 : Int32).toInt).toNat - ((0 : Int32).toInt).toNat) ((0 : Int32).toInt).toNat 12 (w4890_b_20_1 1) (w4890_b_20_0 1))).toInt := xr4984_1
                refine lv_bipush (v := 100) hx hb dX2_fewest_61 (by decide) ?_
                refine lv_aload_n hx hb dX2_fewest_63 rfl (lv_at hl 2 rfl) ?_
                refine gX_2_7 hx hb ht hown hK hP m_311 (v := n4989) rfl dX2_fewest_64 ?_
                refine lv_imul hx hb dX2_fewest_67 ?_
                refine lv_topi (fun v4990 ev4990 => ?_)
                refine lv_iload_n hx hb dX2_fewest_68 rfl (lv_at hl 3 rfl) ?_
                refine lv_aload_n hx hb dX2_fewest_69 rfl (lv_at hl 2 rfl) ?_
                refine gX_2_6 hx hb ht hown hK hP m_310 (v := n4988) rfl dX2_fewest_70 ?_
                refine lv_imul hx hb dX2_fewest_73 ?_
                refine lv_topi (fun v4991 ev4991 => ?_)
                refine lv_icmp_gt (tgt := 79) hx hb dX2_fewest_74 (by decide) (fun c4992 => ?_) (fun c4992 => ?_)
                · have fc4992 := z_lt (rfl : (v4991).toInt = _) (rfl : (v4990).toInt = _) c4992
                  refine lv_iinc (v := 13) (lv' := [(3, .int 13), (2, .int r1), (0, .ref (g 11 6)), (1, .int a)]) hx hb dX2_fewest_79 hl (k := 0) rfl (by decide) (by decide) rfl (fun ls hl => ?_)
                  refine lv_goto (tgt := 39) hx hb dX2_fewest_82 (by decide) ?_
                  have : (13 : Int32).toInt = 13 := (by decide)
                  exact ih4891 13 n4988 n4989 n4985 n4986 n4987 ⟨by decide, by decide⟩ hn4985 (show n4987 0 = lsI (fun q : Nat => ((fa 10 0) (9 * ((n2 q).toInt).toNat + 4)).toInt64) ((r1 : Int32).toInt).toNat ∧ n4986 0 = lsI (fun q : Nat => ((fa 10 0) (9 * ((n2 q).toInt).toNat + 3)).toInt64) ((r1 : Int32).toInt).toNat ∧ n4987 1 = 0 ∧ n4986 1 = 0 from (by have k0 := xr4984_0 0 (by decide); have k1 := xr4984_0 1 (by decide); rw [k0.1, k0.2, k1.1, k1.2]; exact hq4891_0)) (show ∀ pt : Int32, pt.toInt = (iv 2 5).toInt → ∀ z : Nat, 2 ≤ z → (z : Int) < (13 : Int32).toInt → ¬ enX (fun q : Nat => ((fa 10 0) (9 * ((n2 q).toInt).toNat + 4)).toInt64) (fun q : Nat => ((fa 10 0) (9 * ((n2 q).toInt).toNat + 3)).toInt64) ((r1 : Int32).toInt).toNat (lsI (fun q : Nat => ((fa 10 0) (9 * ((n2 q).toInt).toNat + 4)).toInt64) ((r1 : Int32).toInt).toNat) (lsI (fun q : Nat => ((fa 10 0) (9 * ((n2 q).toInt).toNat + 3)).toInt64) ((r1 : Int32).toInt).toNat) pt a z from (fun pt hpt z h1 h2 => by
                        have hp9 := xr4984_1 pt 0 0 hpt (by decide) (by decide)
                        have hq9 := hq4891_0
                        rw [show ((0 : Int32).toInt).toNat = 0 from by decide, Nat.sub_zero, Nat.zero_add, Nat.zero_add, hq9.1, hq9.2.1, hq9.2.2.1, hq9.2.2.2] at hp9
                        have hw9 := Int32.toInt_inj.mp hp9.1
                        have hf9 := Int32.toInt_inj.mp hp9.2
                        have hE9 : enX (fun q : Nat => ((fa 10 0) (9 * ((n2 q).toInt).toNat + 4)).toInt64) (fun q : Nat => ((fa 10 0) (9 * ((n2 q).toInt).toNat + 3)).toInt64) ((r1 : Int32).toInt).toNat (lsI (fun q : Nat => ((fa 10 0) (9 * ((n2 q).toInt).toNat + 4)).toInt64) ((r1 : Int32).toInt).toNat) (lsI (fun q : Nat => ((fa 10 0) (9 * ((n2 q).toInt).toNat + 3)).toInt64) ((r1 : Int32).toInt).toNat) pt a 12 ↔ (v4990 : Int32).toInt ≤ (v4991 : Int32).toInt := by
                          unfold enX
                          rw [ev4990, ev4991, hw9, hf9]
                        by_cases hz : z = 12
                        · rw [hz]; exact fun y => absurd (hE9.mp y) (by omega)
                        · exact hq4891_1 pt hpt z h1 (by omega))) (show 2 ≤ (13 : Int32).toInt from by omega) (by omega) _ _ ls hP hD hS (lv_sub hl [0, 1, 2, 3] rfl)
                · have fc4992 := z_nlt (rfl : (v4991).toInt = _) (rfl : (v4990).toInt = _) c4992
                  refine lv_iload_n hx hb dX2_fewest_77 rfl (lv_at hl 0 rfl) ?_
                  have : (12 : Int32).toInt = 12 := (by decide)
                  have hP9 : va_P (dC, dI) classes (WX h g ca (u2 (u2 iv 2 6 n4988) 2 7 n4989) lv (u2 (u2 fa 2 2 n2) 20 2 n4985) (u2 (u2 la 20 0 n4986) 20 1 n4987)) H := hP
                  have hD9 : va_D A (WX h g ca (u2 (u2 iv 2 6 n4988) 2 7 n4989) lv (u2 (u2 fa 2 2 n2) 20 2 n4985) (u2 (u2 la 20 0 n4986) 20 1 n4987)) := hD
                  exact W.iret (v := 12) hx hb hr (fun t ht9 hW => ⟨⟨12, ((u2 (u2 iv 2 6 n4988) 2 7 n4989), lv, (u2 (u2 fa 2 2 n2) 20 2 n4985), (u2 (u2 la 20 0 n4986) 20 1 n4987)), rfl, ⟨n2, n4985, n4986, n4987, n4988, n4989, hn2, (show ∀ pt : Int32, pt.toInt = (iv 2 5).toInt → NeR (neX (fa 10 0) (iv 2 3).toInt (iv 2 4).toInt ((iv 10 1).toInt).toNat pt a) (lsP (cxP (fa 10 0) (iv 2 3).toInt (iv 2 4).toInt 0) ((iv 10 1).toInt).toNat).length (12 : Int32).toInt from (fun pt hpt => by
                        have hl9 := xr1_0
                        have ha9 := xr1_1
                        rw [show (0 : Int32).toInt = 0 from by decide] at hl9 ha9
                        have hn9 : ((r1 : Int32).toInt).toNat = (lsP (cxP (fa 10 0) (iv 2 3).toInt (iv 2 4).toInt 0) ((iv 10 1).toInt).toNat).length := by omega
                        have hp9 := xr4984_1 pt 0 0 hpt (by decide) (by decide)
                        have hq9 := hq4891_0
                        rw [show ((0 : Int32).toInt).toNat = 0 from by decide, Nat.sub_zero, Nat.zero_add, Nat.zero_add, hq9.1, hq9.2.1, hq9.2.2.1, hq9.2.2.2] at hp9
                        have hw9 := Int32.toInt_inj.mp hp9.1
                        have hf9 := Int32.toInt_inj.mp hp9.2
                        have hE9 : enX (fun q : Nat => ((fa 10 0) (9 * ((n2 q).toInt).toNat + 4)).toInt64) (fun q : Nat => ((fa 10 0) (9 * ((n2 q).toInt).toNat + 3)).toInt64) ((r1 : Int32).toInt).toNat (lsI (fun q : Nat => ((fa 10 0) (9 * ((n2 q).toInt).toNat + 4)).toInt64) ((r1 : Int32).toInt).toNat) (lsI (fun q : Nat => ((fa 10 0) (9 * ((n2 q).toInt).toNat + 3)).toInt64) ((r1 : Int32).toInt).toNat) pt a 12 ↔ (v4990 : Int32).toInt ≤ (v4991 : Int32).toInt := by
                          unfold enX
                          rw [ev4990, ev4991, hw9, hf9]
                        refine NeR_cg (ne_cl ha9) ?_
                        rw [← hn9]
                        exact Or.inl ⟨12, by decide, by omega, hE9.mpr (by omega), fun z h1 h2 => hq4891_1 pt hpt z h1 (by omega), by omega⟩)), ⟨by decide, by decide⟩, rfl⟩, by rw [ht9]; exact hP9, hD9⟩, hS.F ht9⟩) hS.2.2 dX2_fewest_78
        have : (2 : Int32).toInt = 2 := (by decide)
        exact lp4891 12 2 (iv 2 6) (iv 2 7) w4158_a_20_2 w4158_b_20_0 w4158_b_20_1 ⟨by decide, by decide⟩ hw4158_a_20_2 (show w4158_b_20_1 0 = lsI (fun q : Nat => ((fa 10 0) (9 * ((n2 q).toInt).toNat + 4)).toInt64) ((r1 : Int32).toInt).toNat ∧ w4158_b_20_0 0 = lsI (fun q : Nat => ((fa 10 0) (9 * ((n2 q).toInt).toNat + 3)).toInt64) ((r1 : Int32).toInt).toNat ∧ w4158_b_20_1 1 = 0 ∧ w4158_b_20_0 1 = 0 from (by have hq9 := hq4159_0; rw [show ((x4158_3 : Int32).toInt).toNat = ((r1 : Int32).toInt).toNat from by omega] at hq9; exact hq9)) (show ∀ pt : Int32, pt.toInt = (iv 2 5).toInt → ∀ z : Nat, 2 ≤ z → (z : Int) < (2 : Int32).toInt → ¬ enX (fun q : Nat => ((fa 10 0) (9 * ((n2 q).toInt).toNat + 4)).toInt64) (fun q : Nat => ((fa 10 0) (9 * ((n2 q).toInt).toNat + 3)).toInt64) ((r1 : Int32).toInt).toNat (lsI (fun q : Nat => ((fa 10 0) (9 * ((n2 q).toInt).toNat + 4)).toInt64) ((r1 : Int32).toInt).toNat) (lsI (fun q : Nat => ((fa 10 0) (9 * ((n2 q).toInt).toNat + 3)).toInt64) ((r1 : Int32).toInt).toNat) pt a z from (fun pt hpt z h1 h2 => absurd h2 (by omega))) (show 2 ≤ (2 : Int32).toInt from by omega) (show 13 - (2 : Int32).toInt < _ from by omega) _ _ ls hP hD hS (lv_sub hl [0, 1, 2, 3] rfl)
      · have fc4160 := z_nle (rfl : (r1).toInt = _) (rfl : (x4158_3).toInt = _) c4160
        refine lv_aload_n hx hb dX2_fewest_20 rfl (lv_at hl 2 rfl) ?_
        refine lv_iconst (v := 0) hx hb dX2_fewest_21 (by decide) ?_
        refine lv_aload_n hx hb dX2_fewest_22 rfl (lv_at hl 2 rfl) ?_
        refine gX_2_2 hx hb ht hown hK hP m_306 dX2_fewest_23 ?_
        refine lv_iload_n hx hb dX2_fewest_26 rfl (lv_at hl 0 rfl) ?_
        refine lX_2_2 hx hb hK hP (f := n2) rfl (vp_in_iff.mpr ⟨by omega, by omega⟩) dX2_fewest_27 ?_
        refine lv_topi (fun v4993 ev4993 => ?_)
        have tv4993 : 0 ≤ v4993.toInt ∧ v4993.toInt ≤ 59 := by rw [ev4993]; exact hn2 _
        have hFc := free_all hD hS hA
        refine va_callv (va_runV (As := [.int 0, .int v4993]) (rest := []) ⟨hx, hb, hml, hown, ht⟩ (c_X2_heap_w l dC dI H.size h g ca iv lv (u2 (u2 fa 2 2 n2) 20 2 w4158_a_20_2) (u2 (u2 la 20 0 w4158_b_20_0) 20 1 w4158_b_20_1) (IX_a (c := 20) (k := 2) (IX_a (c := 2) (k := 2) hI hn2) hw4158_a_20_2) 0 v4993 ⟨by decide, by decide⟩ ⟨by omega, by omega⟩) (kV 2 ht m_890 m_892 m_33 m_85 m_893 rfl rfl hd_X2_heap_v ⟨Nat.le_of_ble_eq_true rfl, Nat.le_of_ble_eq_true rfl⟩) (vW hP hK hD (rX_2 hK hP)) rfl rfl hl.1 rfl (lv_room (Nat.le_of_ble_eq_true rfl)) dX2_fewest_28 ⟨Nat.le_of_ble_eq_true rfl, Nat.le_of_ble_eq_true rfl⟩) hS (fun q _ h => hFc q h) hFc (fun u t H1 locs ht9 hvm hr4994 hB hz1 hk1 hS => ?_)
        obtain ⟨n4995, n4996, n4997, xr4994_0, xr4994_1, xr4994_2, xr4994_3, xr4994_4, xr4994_5, rfl⟩ := hr4994
        have hn4995 : ∀ j, inb (bA 20 2 j) (n4995 j) := fun j => full_i _
        obtain ⟨hP, hD⟩ := hB
        rw [ht9] at hP
        generalize H1 = H at hP hS ⊢
        have hP : va_P (dC, dI) classes (WX h g ca iv lv (u2 (u2 fa 2 2 n2) 20 2 n4995) (u2 (u2 la 20 0 n4996) 20 1 n4997)) H := hP
        have hD : va_D A (WX h g ca iv lv (u2 (u2 fa 2 2 n2) 20 2 n4995) (u2 (u2 la 20 0 n4996) 20 1 n4997)) := (show va_D _ (WX h g ca iv lv (u2 (u2 fa 2 2 n2) 20 2 n4995) (u2 (u2 la 20 0 n4996) 20 1 n4997)) from hD).weaken (fun _ _ _ h => hFc _ h)
        have xr4994_0 : ∀ j : Nat, j ≠ (0 : Int32).toNatClampNeg → n4996 j = w4158_b_20_0 j := xr4994_0
        have xr4994_1 : ∀ j : Nat, j ≠ (0 : Int32).toNatClampNeg → n4997 j = w4158_b_20_1 j := xr4994_1
        have xr4994_2 : ∀ j : Nat, j ≠ (0 : Int32).toNatClampNeg → n4995 j = w4158_a_20_2 j := xr4994_2
        have xr4994_3 : n4996 (0 : Int32).toNatClampNeg = w4158_b_20_0 (0 : Int32).toNatClampNeg + ((fa 10 0) (9 * ((v4993 : Int32).toInt).toNat + 3)).toInt64 := xr4994_3
        have xr4994_4 : n4997 (0 : Int32).toNatClampNeg = w4158_b_20_1 (0 : Int32).toNatClampNeg + ((fa 10 0) (9 * ((v4993 : Int32).toInt).toNat + 4)).toInt64 := xr4994_4
        have xr4994_5 : n4995 (0 : Int32).toNatClampNeg = w4158_a_20_2 (0 : Int32).toNatClampNeg + 1 := xr4994_5
        obtain ⟨v4998, ev4998⟩ : ∃ y : Int32, y = x4158_3 + 1 := ⟨_, rfl⟩
        have tv4998 := z_add ev4998 rfl (by decide : (1 : Int32).toInt = 1) (by omega) (by omega)
        refine lv_iinc (v := v4998) (lv' := [(3, .int v4998), (2, .int r1), (0, .ref (g 11 6)), (1, .int a)]) hx hb dX2_fewest_31 hl (k := 0) rfl (by rw [ev4998]; rfl) (by decide) rfl (fun ls hl => ?_)
        refine lv_goto (tgt := 15) hx hb dX2_fewest_34 (by decide) ?_
        exact ih4159 v4998 n4995 n4996 n4997 ⟨by omega, by omega⟩ hn4995 (show n4997 0 = lsI (fun q : Nat => ((fa 10 0) (9 * ((n2 q).toInt).toNat + 4)).toInt64) ((v4998 : Int32).toInt).toNat ∧ n4996 0 = lsI (fun q : Nat => ((fa 10 0) (9 * ((n2 q).toInt).toNat + 3)).toInt64) ((v4998 : Int32).toInt).toNat ∧ n4997 1 = 0 ∧ n4996 1 = 0 from (by
              have z00 : (0 : Int32).toNatClampNeg = 0 := (by decide)
              have z01 : (1 : Nat) ≠ (0 : Int32).toNatClampNeg := (by decide)
              have hs9 : ((v4998 : Int32).toInt).toNat = ((x4158_3 : Int32).toInt).toNat + 1 := by omega
              have hq9 := hq4159_0
              have hv9 : (v4993 : Int32) = n2 ((x4158_3 : Int32).toInt).toNat := ev4993
              have p3 := xr4994_3
              have p4 := xr4994_4
              rw [z00] at p3 p4
              rw [lsI_s hs9, lsI_s hs9, p3, p4, hq9.1, hq9.2.1, hv9, xr4994_0 1 z01, xr4994_1 1 z01]
              exact ⟨rfl, rfl, hq9.2.2.1, hq9.2.2.2⟩)) (show (v4998 : Int32).toInt ≤ (r1 : Int32).toInt from by omega) (by omega) _ _ ls hP hD hS (lv_sub hl [0, 1, 2, 3] rfl)
  exact lp4159 13 0 n4 n5 n6 ⟨by decide, by decide⟩ hn4 (show n6 0 = lsI (fun q : Nat => ((fa 10 0) (9 * ((n2 q).toInt).toNat + 4)).toInt64) ((0 : Int32).toInt).toNat ∧ n5 0 = lsI (fun q : Nat => ((fa 10 0) (9 * ((n2 q).toInt).toNat + 3)).toInt64) ((0 : Int32).toInt).toNat ∧ n6 1 = 0 ∧ n5 1 = 0 from (by have hz : ((0 : Int32).toInt).toNat = 0 := (by decide); rw [hz]; exact ⟨(xr3_0 0 (by decide)).2.1, (xr3_0 0 (by decide)).1, (xr3_0 1 (by decide)).2.1, (xr3_0 1 (by decide)).1⟩)) (show (0 : Int32).toInt ≤ (r1 : Int32).toInt from by omega) (by first | decide | omega) _ _ ls hP hD hS (lv_sub hl [0, 1, 2, 3] rfl)
