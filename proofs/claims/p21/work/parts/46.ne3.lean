/-! ===== ne3 ===== -/
set_option maxHeartbeats 4000000 in
set_option maxRecDepth 100000 in
/-- X2_takeSome -/
theorem c_X2_takeSome_w7 (l : Launch) (dC : Nat → ClassId) (dI : Nat → Nat → Nat) (sz : Nat) (h : Nat) (g : Nat → Nat → Nat) (ca : Nat → Nat → ClassId) (iv : Nat → Nat → Int32) (lv : Nat → Nat → Int64) (fa : Nat → Nat → Nat → Int32) (la : Nat → Nat → Nat → Int64) (hI : IX iv fa) (k : Int32) (n : Int32) (h_k : 0 ≤ k.toInt ∧ k.toInt ≤ 12) (h_n : 0 ≤ n.toInt ∧ n.toInt ≤ 12) : Met l yX2_takeSome (wc yX2_takeSome cX2_takeSome 6 none) ({ frames := 9, cells := 0, slots := 0, locals := 238 } : Room) (pW (dC, dI) classes (WX h g ca iv lv fa la) (TX ca) sz [.ref (g 11 6), .int 7, .int k, .int n]) (va_Qv (fun (u : SS) => ∃ (na_20_2 : Nat → Int32) (nb_20_0 : Nat → Int64) (nb_20_1 : Nat → Int64) (ni_2_6 : Int32) (ni_2_7 : Int32), (∀ j : Nat, j < 2 → nb_20_0 j = (la 20 0) j ∧ nb_20_1 j = (la 20 1) j) ∧ (∀ (pt : Int32) (w0 f0 : Nat), pt.toInt = (iv 2 5).toInt → (iv 2 6).toInt = (oN w0).toInt → (iv 2 7).toInt = (oN f0).toInt → (ni_2_6).toInt = (oN (w0 + nT nO (fun q : Nat => ((fa 10 0) (9 * (((fa 2 2) q).toInt).toNat + 4)).toInt64) (fun q : Nat => ((fa 10 0) (9 * (((fa 2 2) q).toInt).toNat + 3)).toInt64) ((n.toInt).toNat - (k.toInt).toNat) (k.toInt).toNat 7 ((la 20 1) 1) ((la 20 0) 1))).toInt ∧ (ni_2_7).toInt = (oN (f0 + nT (nF ((la 20 1) 0) ((la 20 0) 0) pt) (fun q : Nat => ((fa 10 0) (9 * (((fa 2 2) q).toInt).toNat + 4)).toInt64) (fun q : Nat => ((fa 10 0) (9 * (((fa 2 2) q).toInt).toNat + 3)).toInt64) ((n.toInt).toNat - (k.toInt).toNat) (k.toInt).toNat 7 ((la 20 1) 1) ((la 20 0) 1))).toInt) ∧ u = ((u2 (u2 iv 2 6 ni_2_6) 2 7 ni_2_7), lv, (u2 fa 20 2 na_20_2), (u2 (u2 la 20 0 nb_20_0) 20 1 nb_20_1))) (bX (dC, dI) h g ca (va_A (WX h g ca iv lv fa la) sz)) (va_A (WX h g ca iv lv fa la) sz)) 0 0 (va_A (WX h g ca iv lv fa la) sz) := by
  refine Met.ofW (cc := cX2_takeSome) (maxL := 6) (ret := none) (by decide) rfl ?_
  intro p e s m args below meth c s₁ B hml hv
  obtain ⟨rfl, hsz, hP, hK, hD0⟩ := hv
  have hx := B.exec
  have hb := B.bytes
  have hr := B.returns
  have ht := tb_tl (atoms_spec (ws := wc yX2_takeSome cX2_takeSome 6 none) B.pre)
  have hown : s.vm.findClass RX2 = some m.cls := findClass_of_methodNamed B.named
  have hlocks := B.notSynchronized
  subst hsz
  have hD := hD0.self (sz := s.heap.size)
  generalize hAe : va_A (WX h g ca iv lv fa la) s.heap.size = A at hD ⊢
  have hA : ∀ q : Nat, s.heap.size ≤ q → A q := fun q h => by rw [← hAe]; exact Or.inr h
  have hS : va_S A s.heap s.heap [] := va_S.rf
  have hl := lv_entry [.ref (g 11 6), .int 7, .int k, .int n] (n := 6) (Nat.le_of_ble_eq_true rfl)
  rw [lg_entry_eq]
  generalize (lg_sl [.ref (g 11 6), .int 7, .int k, .int n] ++ List.replicate (6 - (lg_sl [.ref (g 11 6), .int 7, .int k, .int n]).length) Slot.unset).toArray = ls at hl ⊢
  have hl : lv_has ls 6 [(0, .ref (g 11 6)), (1, .int 7), (2, .int k), (3, .int n)] := hl
  refine lv_iload_n hx hb dX2_takeSome_0 rfl (lv_at hl 1 rfl) ?_
  refine lv_if_gt (tgt := 41) hx hb dX2_takeSome_1 (by decide) (fun c1 => ?_) (fun c1 => ?_)
  · skip
    refine lv_iload_n hx hb dX2_takeSome_41 rfl (lv_at hl 2 rfl) ?_
    refine lv_istore (lv' := [(4, .int k), (0, .ref (g 11 6)), (1, .int 7), (2, .int k), (3, .int n)]) hx hb dX2_takeSome_42 hl (by decide) rfl (fun ls hl => ?_)
    have lp49 : ∀ (nn49 : Nat) (x48_4 : Int32) (w48_i_2_6 : Int32) (w48_i_2_7 : Int32) (w48_a_20_2 : Nat → Int32) (w48_b_20_0 : Nat → Int64) (w48_b_20_1 : Nat → Int64), 0 ≤ x48_4.toInt ∧ x48_4.toInt ≤ 12 → (∀ j, inb (bA 20 2 j) (w48_a_20_2 j)) → (∀ j : Nat, j < 2 → w48_b_20_0 j = (la 20 0) j ∧ w48_b_20_1 j = (la 20 1) j) → (∀ (pt : Int32) (w0 f0 : Nat), pt.toInt = (iv 2 5).toInt → (iv 2 6).toInt = (oN w0).toInt → (iv 2 7).toInt = (oN f0).toInt → ∃ u v : Nat, (w48_i_2_6 : Int32).toInt = (oN u).toInt ∧ (w48_i_2_7 : Int32).toInt = (oN v).toInt ∧ u + nT nO (fun q : Nat => ((fa 10 0) (9 * (((fa 2 2) q).toInt).toNat + 4)).toInt64) (fun q : Nat => ((fa 10 0) (9 * (((fa 2 2) q).toInt).toNat + 3)).toInt64) (((n).toInt).toNat - ((x48_4 : Int32).toInt).toNat) ((x48_4 : Int32).toInt).toNat 7 (la 20 1 1) (la 20 0 1) = w0 + nT nO (fun q : Nat => ((fa 10 0) (9 * (((fa 2 2) q).toInt).toNat + 4)).toInt64) (fun q : Nat => ((fa 10 0) (9 * (((fa 2 2) q).toInt).toNat + 3)).toInt64) (((n).toInt).toNat - ((k).toInt).toNat) ((k).toInt).toNat 7 (la 20 1 1) (la 20 0 1) ∧ v + nT (nF (la 20 1 0) (la 20 0 0) pt) (fun q : Nat => ((fa 10 0) (9 * (((fa 2 2) q).toInt).toNat + 4)).toInt64) (fun q : Nat => ((fa 10 0) (9 * (((fa 2 2) q).toInt).toNat + 3)).toInt64) (((n).toInt).toNat - ((x48_4 : Int32).toInt).toNat) ((x48_4 : Int32).toInt).toNat 7 (la 20 1 1) (la 20 0 1) = f0 + nT (nF (la 20 1 0) (la 20 0 0) pt) (fun q : Nat => ((fa 10 0) (9 * (((fa 2 2) q).toInt).toNat + 4)).toInt64) (fun q : Nat => ((fa 10 0) (9 * (((fa 2 2) q).toInt).toNat + 3)).toInt64) (((n).toInt).toNat - ((k).toInt).toNat) ((k).toInt).toNat 7 (la 20 1 1) (la 20 0 1)) → 12 - x48_4.toInt < (nn49 : Int) → ∀ (H : Heap) (locs : List Loc), ∀ (ls : Array Slot), va_P (dC, dI) classes (WX h g ca (u2 (u2 iv 2 6 w48_i_2_6) 2 7 w48_i_2_7) lv (u2 fa 20 2 w48_a_20_2) (u2 (u2 la 20 0 w48_b_20_0) 20 1 w48_b_20_1)) H → va_D A (WX h g ca (u2 (u2 iv 2 6 w48_i_2_6) 2 7 w48_i_2_7) lv (u2 fa 20 2 w48_a_20_2) (u2 (u2 la 20 0 w48_b_20_0) 20 1 w48_b_20_1)) → va_S A s.heap H locs → lv_has ls 6 [(4, .int x48_4), (0, .ref (g 11 6)), (1, .int 7), (2, .int k), (3, .int n)] → W p l e ({ frames := 9, cells := 0, slots := 0, locals := 238 } : Room) s m ([.ref (g 11 6), .int 7, .int k, .int n] : List Value).toArray below meth c H locs 0 0 (MQ below (va_Qv (fun (u : SS) => ∃ (na_20_2 : Nat → Int32) (nb_20_0 : Nat → Int64) (nb_20_1 : Nat → Int64) (ni_2_6 : Int32) (ni_2_7 : Int32), (∀ j : Nat, j < 2 → nb_20_0 j = (la 20 0) j ∧ nb_20_1 j = (la 20 1) j) ∧ (∀ (pt : Int32) (w0 f0 : Nat), pt.toInt = (iv 2 5).toInt → (iv 2 6).toInt = (oN w0).toInt → (iv 2 7).toInt = (oN f0).toInt → (ni_2_6).toInt = (oN (w0 + nT nO (fun q : Nat => ((fa 10 0) (9 * (((fa 2 2) q).toInt).toNat + 4)).toInt64) (fun q : Nat => ((fa 10 0) (9 * (((fa 2 2) q).toInt).toNat + 3)).toInt64) ((n.toInt).toNat - (k.toInt).toNat) (k.toInt).toNat 7 ((la 20 1) 1) ((la 20 0) 1))).toInt ∧ (ni_2_7).toInt = (oN (f0 + nT (nF ((la 20 1) 0) ((la 20 0) 0) pt) (fun q : Nat => ((fa 10 0) (9 * (((fa 2 2) q).toInt).toNat + 4)).toInt64) (fun q : Nat => ((fa 10 0) (9 * (((fa 2 2) q).toInt).toNat + 3)).toInt64) ((n.toInt).toNat - (k.toInt).toNat) (k.toInt).toNat 7 ((la 20 1) 1) ((la 20 0) 1))).toInt) ∧ u = ((u2 (u2 iv 2 6 ni_2_6) 2 7 ni_2_7), lv, (u2 fa 20 2 na_20_2), (u2 (u2 la 20 0 nb_20_0) 20 1 nb_20_1))) (bX (dC, dI) h g ca A) A) ([.ref (g 11 6), .int 7, .int k, .int n] : List Value).toArray s 0 0 A) (F0 m 44 ls []) := by
      intro nn49
      induction nn49 with
      | zero => intro x48_4 w48_i_2_6 w48_i_2_7 w48_a_20_2 w48_b_20_0 w48_b_20_1 hx48_4 hw48_a_20_2 hq49_0 hq49_1 hm49; exfalso; omega
      | succ nn49 ih49 =>
        intro x48_4 w48_i_2_6 w48_i_2_7 w48_a_20_2 w48_b_20_0 w48_b_20_1 hx48_4 hw48_a_20_2 hq49_0 hq49_1 hm49 H locs ls hP hD hS hl
        refine lv_iload hx hb dX2_takeSome_44 (lv_at hl 0 rfl) ?_
        refine lv_iload_n hx hb dX2_takeSome_46 rfl (lv_at hl 4 rfl) ?_
        refine lv_iload_n hx hb dX2_takeSome_47 rfl (lv_at hl 2 rfl) ?_
        refine lv_isub hx hb dX2_takeSome_48 ?_
        refine lv_topi (fun v50 ev50 => ?_)
        have tv50 := z_sub ev50 (rfl : (n).toInt = _) (by decide : (7 : Int32).toInt = 7) (by omega) (by omega)
        refine lv_icmp_gt (tgt := 114) hx hb dX2_takeSome_49 (by decide) (fun c51 => ?_) (fun c51 => ?_)
        · have fc51 := z_lt (rfl : (v50).toInt = _) (rfl : (x48_4).toInt = _) c51
          have hP9 : va_P (dC, dI) classes (WX h g ca (u2 (u2 iv 2 6 w48_i_2_6) 2 7 w48_i_2_7) lv (u2 fa 20 2 w48_a_20_2) (u2 (u2 la 20 0 w48_b_20_0) 20 1 w48_b_20_1)) H := hP
          have hD9 : va_D A (WX h g ca (u2 (u2 iv 2 6 w48_i_2_6) 2 7 w48_i_2_7) lv (u2 fa 20 2 w48_a_20_2) (u2 (u2 la 20 0 w48_b_20_0) 20 1 w48_b_20_1)) := hD
          exact W.vret hx hb hr (fun t ht9 hW => ⟨⟨((u2 (u2 iv 2 6 w48_i_2_6) 2 7 w48_i_2_7), lv, (u2 fa 20 2 w48_a_20_2), (u2 (u2 la 20 0 w48_b_20_0) 20 1 w48_b_20_1)), rfl, ⟨w48_a_20_2, w48_b_20_0, w48_b_20_1, w48_i_2_6, w48_i_2_7, (show ∀ j : Nat, j < 2 → w48_b_20_0 j = (la 20 0) j ∧ w48_b_20_1 j = (la 20 1) j from hq49_0), (show ∀ (pt : Int32) (w0 f0 : Nat), pt.toInt = (iv 2 5).toInt → (iv 2 6).toInt = (oN w0).toInt → (iv 2 7).toInt = (oN f0).toInt → (w48_i_2_6 : Int32).toInt = (oN (w0 + nT nO (fun q : Nat => ((fa 10 0) (9 * (((fa 2 2) q).toInt).toNat + 4)).toInt64) (fun q : Nat => ((fa 10 0) (9 * (((fa 2 2) q).toInt).toNat + 3)).toInt64) (((n).toInt).toNat - ((k).toInt).toNat) ((k).toInt).toNat 7 ((la 20 1) 1) ((la 20 0) 1))).toInt ∧ (w48_i_2_7 : Int32).toInt = (oN (f0 + nT (nF ((la 20 1) 0) ((la 20 0) 0) pt) (fun q : Nat => ((fa 10 0) (9 * (((fa 2 2) q).toInt).toNat + 4)).toInt64) (fun q : Nat => ((fa 10 0) (9 * (((fa 2 2) q).toInt).toNat + 3)).toInt64) (((n).toInt).toNat - ((k).toInt).toNat) ((k).toInt).toNat 7 ((la 20 1) 1) ((la 20 0) 1))).toInt from (fun pt w0 f0 hpt h1 h2 => by
                obtain ⟨u, v, hw, hf, q1, q2⟩ := hq49_1 pt w0 f0 hpt h1 h2
                rw [nT_0 ((n.toInt).toNat - ((x48_4 : Int32).toInt).toNat) ((x48_4 : Int32).toInt).toNat 7 (la 20 1 1) (la 20 0 1) (by omega)] at q1 q2
                rw [← q1, ← q2]
                exact ⟨hw, hf⟩)), rfl⟩, by rw [ht9]; exact hP9, hD9⟩, hS.F ht9⟩) hS.2.2 dX2_takeSome_114
        · have fc51 := z_nlt (rfl : (v50).toInt = _) (rfl : (x48_4).toInt = _) c51
          refine lv_aload_n hx hb dX2_takeSome_52 rfl (lv_at hl 1 rfl) ?_
          refine gX_2_2 hx hb ht hown hK hP m_306 dX2_takeSome_53 ?_
          refine lv_iload hx hb dX2_takeSome_56 (lv_at hl 0 rfl) ?_
          refine lX_2_2 hx hb hK hP (f := (fa 2 2)) rfl (vp_in_iff.mpr ⟨by omega, by omega⟩) dX2_takeSome_58 ?_
          refine lv_topi (fun v52 ev52 => ?_)
          have tv52 : 0 ≤ v52.toInt ∧ v52.toInt ≤ 59 := by rw [ev52]; exact hI.2 2 2 _
          refine lv_istore (lv' := [(5, .int v52), (4, .int x48_4), (0, .ref (g 11 6)), (1, .int 7), (2, .int k), (3, .int n)]) hx hb dX2_takeSome_59 hl (by decide) rfl (fun ls hl => ?_)
          refine lv_aload_n hx hb dX2_takeSome_61 rfl (lv_at hl 2 rfl) ?_
          refine lv_iconst (v := 1) hx hb dX2_takeSome_62 (by decide) ?_
          refine lv_iload hx hb dX2_takeSome_63 (lv_at hl 0 rfl) ?_
          have hFc := free_all hD hS hA
          refine va_callv (va_runV (As := [.int 1, .int v52]) (rest := []) ⟨hx, hb, hml, hown, ht⟩ (c_X2_heap_w l dC dI H.size h g ca (u2 (u2 iv 2 6 w48_i_2_6) 2 7 w48_i_2_7) lv (u2 fa 20 2 w48_a_20_2) (u2 (u2 la 20 0 w48_b_20_0) 20 1 w48_b_20_1) (IX_a (c := 20) (k := 2) (IX_i (c := 2) (k := 7) (IX_i (c := 2) (k := 6) hI (full_i _)) (full_i _)) hw48_a_20_2) 1 v52 ⟨by decide, by decide⟩ ⟨by omega, by omega⟩) (kV 2 ht m_890 m_892 m_33 m_85 m_893 rfl rfl hd_X2_heap_v ⟨Nat.le_of_ble_eq_true rfl, Nat.le_of_ble_eq_true rfl⟩) (vW hP hK hD (rX_2 hK hP)) rfl rfl hl.1 rfl (lv_room (Nat.le_of_ble_eq_true rfl)) dX2_takeSome_65 ⟨Nat.le_of_ble_eq_true rfl, Nat.le_of_ble_eq_true rfl⟩) hS (fun q _ h => hFc q h) hFc (fun u t H1 locs ht9 hvm hr53 hB hz1 hk1 hS => ?_)
          obtain ⟨n54, n55, n56, xr53_0, xr53_1, xr53_2, xr53_3, xr53_4, xr53_5, rfl⟩ := hr53
          have hn54 : ∀ j, inb (bA 20 2 j) (n54 j) := fun j => full_i _
          obtain ⟨hP, hD⟩ := hB
          rw [ht9] at hP
          generalize H1 = H at hP hS ⊢
          have hP : va_P (dC, dI) classes (WX h g ca (u2 (u2 iv 2 6 w48_i_2_6) 2 7 w48_i_2_7) lv (u2 fa 20 2 n54) (u2 (u2 la 20 0 n55) 20 1 n56)) H := hP
          have hD : va_D A (WX h g ca (u2 (u2 iv 2 6 w48_i_2_6) 2 7 w48_i_2_7) lv (u2 fa 20 2 n54) (u2 (u2 la 20 0 n55) 20 1 n56)) := (show va_D _ (WX h g ca (u2 (u2 iv 2 6 w48_i_2_6) 2 7 w48_i_2_7) lv (u2 fa 20 2 n54) (u2 (u2 la 20 0 n55) 20 1 n56)) from hD).weaken (fun _ _ _ h => hFc _ h)
          have xr53_0 : ∀ j : Nat, j ≠ (1 : Int32).toNatClampNeg → n55 j = w48_b_20_0 j := xr53_0
          have xr53_1 : ∀ j : Nat, j ≠ (1 : Int32).toNatClampNeg → n56 j = w48_b_20_1 j := xr53_1
          have xr53_2 : ∀ j : Nat, j ≠ (1 : Int32).toNatClampNeg → n54 j = w48_a_20_2 j := xr53_2
          have xr53_3 : n55 (1 : Int32).toNatClampNeg = w48_b_20_0 (1 : Int32).toNatClampNeg + ((fa 10 0) (9 * ((v52 : Int32).toInt).toNat + 3)).toInt64 := xr53_3
          have xr53_4 : n56 (1 : Int32).toNatClampNeg = w48_b_20_1 (1 : Int32).toNatClampNeg + ((fa 10 0) (9 * ((v52 : Int32).toInt).toNat + 4)).toInt64 := xr53_4
          have xr53_5 : n54 (1 : Int32).toNatClampNeg = w48_a_20_2 (1 : Int32).toNatClampNeg + 1 := xr53_5
          refine lv_aload_n hx hb dX2_takeSome_68 rfl (lv_at hl 2 rfl) ?_
          refine lv_iload_n hx hb dX2_takeSome_69 rfl (lv_at hl 3 rfl) ?_
          refine lv_iconst (v := 1) hx hb dX2_takeSome_70 (by decide) ?_
          refine lv_isub hx hb dX2_takeSome_71 ?_
          refine lv_topi (fun v57 ev57 => ?_)
          obtain rfl : 6 = v57 := (ev57.trans (by decide)).symm
          refine lv_iload hx hb dX2_takeSome_72 (lv_at hl 1 rfl) ?_
          refine lv_iconst (v := 1) hx hb dX2_takeSome_74 (by decide) ?_
          refine lv_iadd hx hb dX2_takeSome_75 ?_
          refine lv_topi (fun v58 ev58 => ?_)
          have tv58 := z_add ev58 (rfl : (x48_4).toInt = _) (by decide : (1 : Int32).toInt = 1) (by omega) (by omega)
          refine lv_iload_n hx hb dX2_takeSome_76 rfl (lv_at hl 5 rfl) ?_
          have hFc := free_all hD hS hA
          refine va_callv (va_runV (As := [.int 6, .int v58, .int n]) (rest := []) ⟨hx, hb, hml, hown, ht⟩ (c_X2_takeSome_w6 l dC dI H.size h g ca (u2 (u2 iv 2 6 w48_i_2_6) 2 7 w48_i_2_7) lv (u2 fa 20 2 n54) (u2 (u2 la 20 0 n55) 20 1 n56) (IX_a (c := 20) (k := 2) (IX_i (c := 2) (k := 7) (IX_i (c := 2) (k := 6) hI (full_i _)) (full_i _)) hn54) v58 n ⟨by omega, by omega⟩ ⟨by omega, by omega⟩) (kV 3 ht m_933 m_935 m_38 m_85 m_936 rfl rfl hd_X2_takeSome_v ⟨Nat.le_of_ble_eq_true rfl, Nat.le_of_ble_eq_true rfl⟩) (vW hP hK hD (rX_2 hK hP)) rfl rfl hl.1 rfl (lv_room (Nat.le_of_ble_eq_true rfl)) dX2_takeSome_77 ⟨Nat.le_of_ble_eq_true rfl, Nat.le_of_ble_eq_true rfl⟩) hS (fun q _ h => hFc q h) hFc (fun u t H1 locs ht9 hvm hr59 hB hz1 hk1 hS => ?_)
          obtain ⟨n60, n61, n62, n63, n64, xr59_0, xr59_1, rfl⟩ := hr59
          have hn60 : ∀ j, inb (bA 20 2 j) (n60 j) := fun j => full_i _
          obtain ⟨hP, hD⟩ := hB
          rw [ht9] at hP
          generalize H1 = H at hP hS ⊢
          have hP : va_P (dC, dI) classes (WX h g ca (u2 (u2 iv 2 6 n63) 2 7 n64) lv (u2 fa 20 2 n60) (u2 (u2 la 20 0 n61) 20 1 n62)) H := hP
          have hD : va_D A (WX h g ca (u2 (u2 iv 2 6 n63) 2 7 n64) lv (u2 fa 20 2 n60) (u2 (u2 la 20 0 n61) 20 1 n62)) := (show va_D _ (WX h g ca (u2 (u2 iv 2 6 n63) 2 7 n64) lv (u2 fa 20 2 n60) (u2 (u2 la 20 0 n61) 20 1 n62)) from hD).weaken (fun _ _ _ h => hFc _ h)
          have xr59_0 : ∀ j : Nat, j < 2 → n61 j = n55 j ∧ n62 j = n56 j := xr59_0
          have xr59_1 : ∀ (pt : Int32) (w0 f0 : Nat), pt.toInt = ((iv 2 5) : Int32).toInt → (w48_i_2_6 : Int32).toInt = (oN w0).toInt → (w48_i_2_7 : Int32).toInt = (oN f0).toInt → (n63 : Int32).toInt = (oN (w0 + nT nO (fun q : Nat => ((fa 10 0) (9 * (((fa 2 2) q).toInt).toNat + 4)).toInt64) (fun q : Nat => ((fa 10 0) (9 * (((fa 2 2) q).toInt).toNat + 3)).toInt64) (((n : Int32).toInt).toNat - ((v58 : Int32).toInt).toNat) ((v58 : Int32).toInt).toNat 6 (n56 1) (n55 1))).toInt ∧ (n64 : Int32).toInt = (oN (f0 + nT (nF (n56 0) (n55 0) pt) (fun q : Nat => ((fa 10 0) (9 * (((fa 2 2) q).toInt).toNat + 4)).toInt64) (fun q : Nat => ((fa 10 0) (9 * (((fa 2 2) q).toInt).toNat + 3)).toInt64) (((n : Int32).toInt).toNat - ((v58 : Int32).toInt).toNat) ((v58 : Int32).toInt).toNat 6 (n56 1) (n55 1))).toInt := xr59_1
          refine lv_aload_n hx hb dX2_takeSome_80 rfl (lv_at hl 2 rfl) ?_
          refine gX_2_1 hx hb ht hown hK hP m_305 dX2_takeSome_81 ?_
          refine lv_iconst (v := 1) hx hb dX2_takeSome_84 (by decide) ?_
          refine lv_aload_n hx hb dX2_takeSome_85 rfl (lv_at hl 2 rfl) ?_
          refine gX_2_0 hx hb ht hown hK hP m_304 dX2_takeSome_86 ?_
          refine lv_iload hx hb dX2_takeSome_89 (lv_at hl 0 rfl) ?_
          refine lv_iconst (v := 3) hx hb dX2_takeSome_91 (by decide) ?_
          refine vp_callSi (W.runV (As := [.int v52, .int 3]) (rest := [.int 1, .ref (g 2 1)]) ⟨hx, hb, hml, hown, ht⟩ (c_X10_get_x3 l dC dI h g ca (u2 (u2 iv 2 6 n63) 2 7 n64) lv (u2 fa 20 2 n60) (u2 (u2 la 20 0 n61) 20 1 n62) (IX_a (c := 20) (k := 2) (IX_i (c := 2) (k := 7) (IX_i (c := 2) (k := 6) hI (full_i _)) (full_i _)) hn60) v52 ⟨by omega, by omega⟩) (kV 2 ht m_889 m_486 m_487 m_78 m_488 rfl rfl hd_X10_get_v ⟨Nat.le_of_ble_eq_true rfl, Nat.le_of_ble_eq_true rfl⟩) (vR hP hK (rX_10 hK hP)) rfl rfl hl.1 rfl (lv_room (Nat.le_of_ble_eq_true rfl)) dX2_takeSome_92 ⟨Nat.le_of_ble_eq_true rfl, Nat.le_of_ble_eq_true rfl⟩) (fun r65 hr65 => ?_)
          obtain ⟨hr65, xr65_0⟩ := hr65
          have xr65_0 : (r65 : Int32).toInt = ((fa 10 0) (9 * ((v52 : Int32).toInt).toNat + 3)).toInt := xr65_0
          refine lv_aload_n hx hb dX2_takeSome_95 rfl (lv_at hl 2 rfl) ?_
          refine gX_2_0 hx hb ht hown hK hP m_304 dX2_takeSome_96 ?_
          refine lv_iload hx hb dX2_takeSome_99 (lv_at hl 0 rfl) ?_
          refine lv_iconst (v := 4) hx hb dX2_takeSome_101 (by decide) ?_
          refine vp_callSi (W.runV (As := [.int v52, .int 4]) (rest := [.int r65, .int 1, .ref (g 2 1)]) ⟨hx, hb, hml, hown, ht⟩ (c_X10_get_x4 l dC dI h g ca (u2 (u2 iv 2 6 n63) 2 7 n64) lv (u2 fa 20 2 n60) (u2 (u2 la 20 0 n61) 20 1 n62) (IX_a (c := 20) (k := 2) (IX_i (c := 2) (k := 7) (IX_i (c := 2) (k := 6) hI (full_i _)) (full_i _)) hn60) v52 ⟨by omega, by omega⟩) (kV 2 ht m_889 m_486 m_487 m_78 m_488 rfl rfl hd_X10_get_v ⟨Nat.le_of_ble_eq_true rfl, Nat.le_of_ble_eq_true rfl⟩) (vR hP hK (rX_10 hK hP)) rfl rfl hl.1 rfl (lv_room (Nat.le_of_ble_eq_true rfl)) dX2_takeSome_102 ⟨Nat.le_of_ble_eq_true rfl, Nat.le_of_ble_eq_true rfl⟩) (fun r66 hr66 => ?_)
          obtain ⟨hr66, xr66_0⟩ := hr66
          have xr66_0 : (r66 : Int32).toInt = ((fa 10 0) (9 * ((v52 : Int32).toInt).toNat + 4)).toInt := xr66_0
          have hFc := free_all hD hS hA
          refine va_callv (va_runV (As := [.int 1, .int r65, .int r66]) (rest := []) ⟨hx, hb, hml, hown, ht⟩ (c_X7_remove_s20 l dC dI H.size h g ca (u2 (u2 iv 2 6 n63) 2 7 n64) lv (u2 fa 20 2 n60) (u2 (u2 la 20 0 n61) 20 1 n62) (IX_a (c := 20) (k := 2) (IX_i (c := 2) (k := 7) (IX_i (c := 2) (k := 6) hI (full_i _)) (full_i _)) hn60) 1 r65 r66 ⟨by decide, by decide⟩) (kV 3 ht m_937 m_938 m_939 m_84 m_940 rfl rfl hd_X7_remove_v ⟨Nat.le_of_ble_eq_true rfl, Nat.le_of_ble_eq_true rfl⟩) (vW hP hK hD (rX_20 hK hP)) rfl rfl hl.1 rfl (lv_room (Nat.le_of_ble_eq_true rfl)) dX2_takeSome_105 ⟨Nat.le_of_ble_eq_true rfl, Nat.le_of_ble_eq_true rfl⟩) hS (fun q _ h => hFc q h) hFc (fun u t H1 locs ht9 hvm hr67 hB hz1 hk1 hS => ?_)
          obtain ⟨n68, n69, n70, xr67_0, xr67_1, xr67_2, xr67_3, rfl⟩ := hr67
          have hn68 : ∀ j, inb (bA 20 2 j) (n68 j) := fun j => full_i _
          obtain ⟨hP, hD⟩ := hB
          rw [ht9] at hP
          generalize H1 = H at hP hS ⊢
          have hP : va_P (dC, dI) classes (WX h g ca (u2 (u2 iv 2 6 n63) 2 7 n64) lv (u2 fa 20 2 n68) (u2 (u2 la 20 0 n69) 20 1 n70)) H := hP
          have hD : va_D A (WX h g ca (u2 (u2 iv 2 6 n63) 2 7 n64) lv (u2 fa 20 2 n68) (u2 (u2 la 20 0 n69) 20 1 n70)) := (show va_D _ (WX h g ca (u2 (u2 iv 2 6 n63) 2 7 n64) lv (u2 fa 20 2 n68) (u2 (u2 la 20 0 n69) 20 1 n70)) from hD).weaken (fun _ _ _ h => hFc _ h)
          have xr67_0 : ∀ j : Nat, j ≠ (1 : Int32).toNatClampNeg → n69 j = n61 j := xr67_0
          have xr67_1 : ∀ j : Nat, j ≠ (1 : Int32).toNatClampNeg → n70 j = n62 j := xr67_1
          have xr67_2 : n69 (1 : Int32).toNatClampNeg = n61 (1 : Int32).toNatClampNeg - ((r65 : Int32)).toInt64 := xr67_2
          have xr67_3 : n70 (1 : Int32).toNatClampNeg = n62 (1 : Int32).toNatClampNeg - ((r66 : Int32)).toInt64 := xr67_3
          obtain ⟨v71, ev71⟩ : ∃ y : Int32, y = x48_4 + 1 := ⟨_, rfl⟩
          have tv71 := z_add ev71 rfl (by decide : (1 : Int32).toInt = 1) (by omega) (by omega)
          refine lv_iinc (v := v71) (lv' := [(4, .int v71), (5, .int v52), (0, .ref (g 11 6)), (1, .int 7), (2, .int k), (3, .int n)]) hx hb dX2_takeSome_108 hl (k := 1) rfl (by rw [ev71]; rfl) (by decide) rfl (fun ls hl => ?_)
          refine lv_goto (tgt := 44) hx hb dX2_takeSome_111 (by decide) ?_
          exact ih49 v71 n63 n64 n68 n69 n70 ⟨by omega, by omega⟩ hn68 (show ∀ j : Nat, j < 2 → n69 j = (la 20 0) j ∧ n70 j = (la 20 1) j from (fun j hj => by
                have z11 : (1 : Int32).toNatClampNeg = 1 := (by decide)
                have z10 : (0 : Nat) ≠ (1 : Int32).toNatClampNeg := (by decide)
                have hv9 : (v52 : Int32) = fa 2 2 ((x48_4 : Int32).toInt).toNat := ev52
                have p3 := xr53_3
                have p4 := xr53_4
                rw [z11] at p3 p4
                have k0 := hq49_0 0 (by decide)
                have k1 := hq49_0 1 (by decide)
                have hB : n55 1 = (la 20 0 1) + (fun q : Nat => ((fa 10 0) (9 * (((fa 2 2) q).toInt).toNat + 3)).toInt64) ((x48_4 : Int32).toInt).toNat := by rw [p3, k1.1, hv9]
                have hA : n56 1 = (la 20 1 1) + (fun q : Nat => ((fa 10 0) (9 * (((fa 2 2) q).toInt).toNat + 4)).toInt64) ((x48_4 : Int32).toInt).toNat := by rw [p4, k1.2, hv9]
                have hR : n55 0 = (la 20 0 0) := by rw [xr53_0 0 z10]; exact k0.1
                have hD : n56 0 = (la 20 1 0) := by rw [xr53_1 0 z10]; exact k0.2
                have hr3 : (r65 : Int32) = fa 10 0 (9 * ((v52 : Int32).toInt).toNat + 3) := Int32.toInt_inj.mp xr65_0
                have hr4 : (r66 : Int32) = fa 10 0 (9 * ((v52 : Int32).toInt).toNat + 4) := Int32.toInt_inj.mp xr66_0
                have m2 := xr67_2
                have m3 := xr67_3
                rw [z11] at m2 m3
                rcases (by omega : j = 0 ∨ j = 1) with rfl | rfl
                · rw [xr67_0 0 z10, xr67_1 0 z10, (xr59_0 0 (by decide)).1, (xr59_0 0 (by decide)).2, hR, hD]
                  exact ⟨rfl, rfl⟩
                · rw [m2, m3, (xr59_0 1 (by decide)).1, (xr59_0 1 (by decide)).2, p3, p4, hr3, hr4, Int64.add_sub_cancel, Int64.add_sub_cancel]
                  exact k1)) (show ∀ (pt : Int32) (w0 f0 : Nat), pt.toInt = (iv 2 5).toInt → (iv 2 6).toInt = (oN w0).toInt → (iv 2 7).toInt = (oN f0).toInt → ∃ u v : Nat, (n63 : Int32).toInt = (oN u).toInt ∧ (n64 : Int32).toInt = (oN v).toInt ∧ u + nT nO (fun q : Nat => ((fa 10 0) (9 * (((fa 2 2) q).toInt).toNat + 4)).toInt64) (fun q : Nat => ((fa 10 0) (9 * (((fa 2 2) q).toInt).toNat + 3)).toInt64) (((n).toInt).toNat - ((v71 : Int32).toInt).toNat) ((v71 : Int32).toInt).toNat 7 (la 20 1 1) (la 20 0 1) = w0 + nT nO (fun q : Nat => ((fa 10 0) (9 * (((fa 2 2) q).toInt).toNat + 4)).toInt64) (fun q : Nat => ((fa 10 0) (9 * (((fa 2 2) q).toInt).toNat + 3)).toInt64) (((n).toInt).toNat - ((k).toInt).toNat) ((k).toInt).toNat 7 (la 20 1 1) (la 20 0 1) ∧ v + nT (nF (la 20 1 0) (la 20 0 0) pt) (fun q : Nat => ((fa 10 0) (9 * (((fa 2 2) q).toInt).toNat + 4)).toInt64) (fun q : Nat => ((fa 10 0) (9 * (((fa 2 2) q).toInt).toNat + 3)).toInt64) (((n).toInt).toNat - ((v71 : Int32).toInt).toNat) ((v71 : Int32).toInt).toNat 7 (la 20 1 1) (la 20 0 1) = f0 + nT (nF (la 20 1 0) (la 20 0 0) pt) (fun q : Nat => ((fa 10 0) (9 * (((fa 2 2) q).toInt).toNat + 4)).toInt64) (fun q : Nat => ((fa 10 0) (9 * (((fa 2 2) q).toInt).toNat + 3)).toInt64) (((n).toInt).toNat - ((k).toInt).toNat) ((k).toInt).toNat 7 (la 20 1 1) (la 20 0 1) from (fun pt w0 f0 hpt h1 h2 => by
                have z11 : (1 : Int32).toNatClampNeg = 1 := (by decide)
                have z10 : (0 : Nat) ≠ (1 : Int32).toNatClampNeg := (by decide)
                have hv9 : (v52 : Int32) = fa 2 2 ((x48_4 : Int32).toInt).toNat := ev52
                have p3 := xr53_3
                have p4 := xr53_4
                rw [z11] at p3 p4
                have k0 := hq49_0 0 (by decide)
                have k1 := hq49_0 1 (by decide)
                have hB : n55 1 = (la 20 0 1) + (fun q : Nat => ((fa 10 0) (9 * (((fa 2 2) q).toInt).toNat + 3)).toInt64) ((x48_4 : Int32).toInt).toNat := by rw [p3, k1.1, hv9]
                have hA : n56 1 = (la 20 1 1) + (fun q : Nat => ((fa 10 0) (9 * (((fa 2 2) q).toInt).toNat + 4)).toInt64) ((x48_4 : Int32).toInt).toNat := by rw [p4, k1.2, hv9]
                have hR : n55 0 = (la 20 0 0) := by rw [xr53_0 0 z10]; exact k0.1
                have hD : n56 0 = (la 20 1 0) := by rw [xr53_1 0 z10]; exact k0.2
                obtain ⟨u, v, hw, hf, q1, q2⟩ := hq49_1 pt w0 f0 hpt h1 h2
                have hs9 : ((v71 : Int32).toInt).toNat = ((x48_4 : Int32).toInt).toNat + 1 := by omega
                have hk9 : ((v58 : Int32).toInt).toNat = ((x48_4 : Int32).toInt).toNat + 1 := by omega
                have hc9 := xr59_1 pt u v hpt hw hf
                rw [hA, hB, hD, hR, hk9] at hc9
                have hr9 : (n.toInt).toNat - ((x48_4 : Int32).toInt).toNat = (n.toInt).toNat - (((x48_4 : Int32).toInt).toNat + 1) + 1 := by omega
                have y1 := Tk_st (m' := 6) hr9 rfl q1
                have y2 := Tk_st (m' := 6) hr9 rfl q2
                rw [hs9]
                exact ⟨_, _, hc9.1, hc9.2, y1, y2⟩)) (by omega) _ _ ls hP hD hS (lv_sub hl [0, 2, 3, 4, 5] rfl)
    exact lp49 13 k (iv 2 6) (iv 2 7) (fa 20 2) (la 20 0) (la 20 1) ⟨by omega, by omega⟩ (hI.2 20 2) (show ∀ j : Nat, j < 2 → (la 20 0) j = (la 20 0) j ∧ (la 20 1) j = (la 20 1) j from (fun j hj => ⟨rfl, rfl⟩)) (show ∀ (pt : Int32) (w0 f0 : Nat), pt.toInt = (iv 2 5).toInt → (iv 2 6).toInt = (oN w0).toInt → (iv 2 7).toInt = (oN f0).toInt → ∃ u v : Nat, ((iv 2 6) : Int32).toInt = (oN u).toInt ∧ ((iv 2 7) : Int32).toInt = (oN v).toInt ∧ u + nT nO (fun q : Nat => ((fa 10 0) (9 * (((fa 2 2) q).toInt).toNat + 4)).toInt64) (fun q : Nat => ((fa 10 0) (9 * (((fa 2 2) q).toInt).toNat + 3)).toInt64) (((n).toInt).toNat - ((k : Int32).toInt).toNat) ((k : Int32).toInt).toNat 7 (la 20 1 1) (la 20 0 1) = w0 + nT nO (fun q : Nat => ((fa 10 0) (9 * (((fa 2 2) q).toInt).toNat + 4)).toInt64) (fun q : Nat => ((fa 10 0) (9 * (((fa 2 2) q).toInt).toNat + 3)).toInt64) (((n).toInt).toNat - ((k).toInt).toNat) ((k).toInt).toNat 7 (la 20 1 1) (la 20 0 1) ∧ v + nT (nF (la 20 1 0) (la 20 0 0) pt) (fun q : Nat => ((fa 10 0) (9 * (((fa 2 2) q).toInt).toNat + 4)).toInt64) (fun q : Nat => ((fa 10 0) (9 * (((fa 2 2) q).toInt).toNat + 3)).toInt64) (((n).toInt).toNat - ((k : Int32).toInt).toNat) ((k : Int32).toInt).toNat 7 (la 20 1 1) (la 20 0 1) = f0 + nT (nF (la 20 1 0) (la 20 0 0) pt) (fun q : Nat => ((fa 10 0) (9 * (((fa 2 2) q).toInt).toNat + 4)).toInt64) (fun q : Nat => ((fa 10 0) (9 * (((fa 2 2) q).toInt).toNat + 3)).toInt64) (((n).toInt).toNat - ((k).toInt).toNat) ((k).toInt).toNat 7 (la 20 1 1) (la 20 0 1) from (fun pt w0 f0 hpt h1 h2 => ⟨w0, f0, h1, h2, rfl, rfl⟩)) (by first | decide | omega) _ _ ls hP hD hS (lv_sub hl [0, 1, 2, 3, 4] rfl)
  · exact absurd c1 (by decide)
set_option maxHeartbeats 4000000 in
set_option maxRecDepth 100000 in
/-- X2_takeSome -/
theorem c_X2_takeSome_w8 (l : Launch) (dC : Nat → ClassId) (dI : Nat → Nat → Nat) (sz : Nat) (h : Nat) (g : Nat → Nat → Nat) (ca : Nat → Nat → ClassId) (iv : Nat → Nat → Int32) (lv : Nat → Nat → Int64) (fa : Nat → Nat → Nat → Int32) (la : Nat → Nat → Nat → Int64) (hI : IX iv fa) (k : Int32) (n : Int32) (h_k : 0 ≤ k.toInt ∧ k.toInt ≤ 12) (h_n : 0 ≤ n.toInt ∧ n.toInt ≤ 12) : Met l yX2_takeSome (wc yX2_takeSome cX2_takeSome 6 none) ({ frames := 10, cells := 0, slots := 0, locals := 263 } : Room) (pW (dC, dI) classes (WX h g ca iv lv fa la) (TX ca) sz [.ref (g 11 6), .int 8, .int k, .int n]) (va_Qv (fun (u : SS) => ∃ (na_20_2 : Nat → Int32) (nb_20_0 : Nat → Int64) (nb_20_1 : Nat → Int64) (ni_2_6 : Int32) (ni_2_7 : Int32), (∀ j : Nat, j < 2 → nb_20_0 j = (la 20 0) j ∧ nb_20_1 j = (la 20 1) j) ∧ (∀ (pt : Int32) (w0 f0 : Nat), pt.toInt = (iv 2 5).toInt → (iv 2 6).toInt = (oN w0).toInt → (iv 2 7).toInt = (oN f0).toInt → (ni_2_6).toInt = (oN (w0 + nT nO (fun q : Nat => ((fa 10 0) (9 * (((fa 2 2) q).toInt).toNat + 4)).toInt64) (fun q : Nat => ((fa 10 0) (9 * (((fa 2 2) q).toInt).toNat + 3)).toInt64) ((n.toInt).toNat - (k.toInt).toNat) (k.toInt).toNat 8 ((la 20 1) 1) ((la 20 0) 1))).toInt ∧ (ni_2_7).toInt = (oN (f0 + nT (nF ((la 20 1) 0) ((la 20 0) 0) pt) (fun q : Nat => ((fa 10 0) (9 * (((fa 2 2) q).toInt).toNat + 4)).toInt64) (fun q : Nat => ((fa 10 0) (9 * (((fa 2 2) q).toInt).toNat + 3)).toInt64) ((n.toInt).toNat - (k.toInt).toNat) (k.toInt).toNat 8 ((la 20 1) 1) ((la 20 0) 1))).toInt) ∧ u = ((u2 (u2 iv 2 6 ni_2_6) 2 7 ni_2_7), lv, (u2 fa 20 2 na_20_2), (u2 (u2 la 20 0 nb_20_0) 20 1 nb_20_1))) (bX (dC, dI) h g ca (va_A (WX h g ca iv lv fa la) sz)) (va_A (WX h g ca iv lv fa la) sz)) 0 0 (va_A (WX h g ca iv lv fa la) sz) := by
  refine Met.ofW (cc := cX2_takeSome) (maxL := 6) (ret := none) (by decide) rfl ?_
  intro p e s m args below meth c s₁ B hml hv
  obtain ⟨rfl, hsz, hP, hK, hD0⟩ := hv
  have hx := B.exec
  have hb := B.bytes
  have hr := B.returns
  have ht := tb_tl (atoms_spec (ws := wc yX2_takeSome cX2_takeSome 6 none) B.pre)
  have hown : s.vm.findClass RX2 = some m.cls := findClass_of_methodNamed B.named
  have hlocks := B.notSynchronized
  subst hsz
  have hD := hD0.self (sz := s.heap.size)
  generalize hAe : va_A (WX h g ca iv lv fa la) s.heap.size = A at hD ⊢
  have hA : ∀ q : Nat, s.heap.size ≤ q → A q := fun q h => by rw [← hAe]; exact Or.inr h
  have hS : va_S A s.heap s.heap [] := va_S.rf
  have hl := lv_entry [.ref (g 11 6), .int 8, .int k, .int n] (n := 6) (Nat.le_of_ble_eq_true rfl)
  rw [lg_entry_eq]
  generalize (lg_sl [.ref (g 11 6), .int 8, .int k, .int n] ++ List.replicate (6 - (lg_sl [.ref (g 11 6), .int 8, .int k, .int n]).length) Slot.unset).toArray = ls at hl ⊢
  have hl : lv_has ls 6 [(0, .ref (g 11 6)), (1, .int 8), (2, .int k), (3, .int n)] := hl
  refine lv_iload_n hx hb dX2_takeSome_0 rfl (lv_at hl 1 rfl) ?_
  refine lv_if_gt (tgt := 41) hx hb dX2_takeSome_1 (by decide) (fun c1 => ?_) (fun c1 => ?_)
  · skip
    refine lv_iload_n hx hb dX2_takeSome_41 rfl (lv_at hl 2 rfl) ?_
    refine lv_istore (lv' := [(4, .int k), (0, .ref (g 11 6)), (1, .int 8), (2, .int k), (3, .int n)]) hx hb dX2_takeSome_42 hl (by decide) rfl (fun ls hl => ?_)
    have lp49 : ∀ (nn49 : Nat) (x48_4 : Int32) (w48_i_2_6 : Int32) (w48_i_2_7 : Int32) (w48_a_20_2 : Nat → Int32) (w48_b_20_0 : Nat → Int64) (w48_b_20_1 : Nat → Int64), 0 ≤ x48_4.toInt ∧ x48_4.toInt ≤ 12 → (∀ j, inb (bA 20 2 j) (w48_a_20_2 j)) → (∀ j : Nat, j < 2 → w48_b_20_0 j = (la 20 0) j ∧ w48_b_20_1 j = (la 20 1) j) → (∀ (pt : Int32) (w0 f0 : Nat), pt.toInt = (iv 2 5).toInt → (iv 2 6).toInt = (oN w0).toInt → (iv 2 7).toInt = (oN f0).toInt → ∃ u v : Nat, (w48_i_2_6 : Int32).toInt = (oN u).toInt ∧ (w48_i_2_7 : Int32).toInt = (oN v).toInt ∧ u + nT nO (fun q : Nat => ((fa 10 0) (9 * (((fa 2 2) q).toInt).toNat + 4)).toInt64) (fun q : Nat => ((fa 10 0) (9 * (((fa 2 2) q).toInt).toNat + 3)).toInt64) (((n).toInt).toNat - ((x48_4 : Int32).toInt).toNat) ((x48_4 : Int32).toInt).toNat 8 (la 20 1 1) (la 20 0 1) = w0 + nT nO (fun q : Nat => ((fa 10 0) (9 * (((fa 2 2) q).toInt).toNat + 4)).toInt64) (fun q : Nat => ((fa 10 0) (9 * (((fa 2 2) q).toInt).toNat + 3)).toInt64) (((n).toInt).toNat - ((k).toInt).toNat) ((k).toInt).toNat 8 (la 20 1 1) (la 20 0 1) ∧ v + nT (nF (la 20 1 0) (la 20 0 0) pt) (fun q : Nat => ((fa 10 0) (9 * (((fa 2 2) q).toInt).toNat + 4)).toInt64) (fun q : Nat => ((fa 10 0) (9 * (((fa 2 2) q).toInt).toNat + 3)).toInt64) (((n).toInt).toNat - ((x48_4 : Int32).toInt).toNat) ((x48_4 : Int32).toInt).toNat 8 (la 20 1 1) (la 20 0 1) = f0 + nT (nF (la 20 1 0) (la 20 0 0) pt) (fun q : Nat => ((fa 10 0) (9 * (((fa 2 2) q).toInt).toNat + 4)).toInt64) (fun q : Nat => ((fa 10 0) (9 * (((fa 2 2) q).toInt).toNat + 3)).toInt64) (((n).toInt).toNat - ((k).toInt).toNat) ((k).toInt).toNat 8 (la 20 1 1) (la 20 0 1)) → 12 - x48_4.toInt < (nn49 : Int) → ∀ (H : Heap) (locs : List Loc), ∀ (ls : Array Slot), va_P (dC, dI) classes (WX h g ca (u2 (u2 iv 2 6 w48_i_2_6) 2 7 w48_i_2_7) lv (u2 fa 20 2 w48_a_20_2) (u2 (u2 la 20 0 w48_b_20_0) 20 1 w48_b_20_1)) H → va_D A (WX h g ca (u2 (u2 iv 2 6 w48_i_2_6) 2 7 w48_i_2_7) lv (u2 fa 20 2 w48_a_20_2) (u2 (u2 la 20 0 w48_b_20_0) 20 1 w48_b_20_1)) → va_S A s.heap H locs → lv_has ls 6 [(4, .int x48_4), (0, .ref (g 11 6)), (1, .int 8), (2, .int k), (3, .int n)] → W p l e ({ frames := 10, cells := 0, slots := 0, locals := 263 } : Room) s m ([.ref (g 11 6), .int 8, .int k, .int n] : List Value).toArray below meth c H locs 0 0 (MQ below (va_Qv (fun (u : SS) => ∃ (na_20_2 : Nat → Int32) (nb_20_0 : Nat → Int64) (nb_20_1 : Nat → Int64) (ni_2_6 : Int32) (ni_2_7 : Int32), (∀ j : Nat, j < 2 → nb_20_0 j = (la 20 0) j ∧ nb_20_1 j = (la 20 1) j) ∧ (∀ (pt : Int32) (w0 f0 : Nat), pt.toInt = (iv 2 5).toInt → (iv 2 6).toInt = (oN w0).toInt → (iv 2 7).toInt = (oN f0).toInt → (ni_2_6).toInt = (oN (w0 + nT nO (fun q : Nat => ((fa 10 0) (9 * (((fa 2 2) q).toInt).toNat + 4)).toInt64) (fun q : Nat => ((fa 10 0) (9 * (((fa 2 2) q).toInt).toNat + 3)).toInt64) ((n.toInt).toNat - (k.toInt).toNat) (k.toInt).toNat 8 ((la 20 1) 1) ((la 20 0) 1))).toInt ∧ (ni_2_7).toInt = (oN (f0 + nT (nF ((la 20 1) 0) ((la 20 0) 0) pt) (fun q : Nat => ((fa 10 0) (9 * (((fa 2 2) q).toInt).toNat + 4)).toInt64) (fun q : Nat => ((fa 10 0) (9 * (((fa 2 2) q).toInt).toNat + 3)).toInt64) ((n.toInt).toNat - (k.toInt).toNat) (k.toInt).toNat 8 ((la 20 1) 1) ((la 20 0) 1))).toInt) ∧ u = ((u2 (u2 iv 2 6 ni_2_6) 2 7 ni_2_7), lv, (u2 fa 20 2 na_20_2), (u2 (u2 la 20 0 nb_20_0) 20 1 nb_20_1))) (bX (dC, dI) h g ca A) A) ([.ref (g 11 6), .int 8, .int k, .int n] : List Value).toArray s 0 0 A) (F0 m 44 ls []) := by
      intro nn49
      induction nn49 with
      | zero => intro x48_4 w48_i_2_6 w48_i_2_7 w48_a_20_2 w48_b_20_0 w48_b_20_1 hx48_4 hw48_a_20_2 hq49_0 hq49_1 hm49; exfalso; omega
      | succ nn49 ih49 =>
        intro x48_4 w48_i_2_6 w48_i_2_7 w48_a_20_2 w48_b_20_0 w48_b_20_1 hx48_4 hw48_a_20_2 hq49_0 hq49_1 hm49 H locs ls hP hD hS hl
        refine lv_iload hx hb dX2_takeSome_44 (lv_at hl 0 rfl) ?_
        refine lv_iload_n hx hb dX2_takeSome_46 rfl (lv_at hl 4 rfl) ?_
        refine lv_iload_n hx hb dX2_takeSome_47 rfl (lv_at hl 2 rfl) ?_
        refine lv_isub hx hb dX2_takeSome_48 ?_
        refine lv_topi (fun v50 ev50 => ?_)
        have tv50 := z_sub ev50 (rfl : (n).toInt = _) (by decide : (8 : Int32).toInt = 8) (by omega) (by omega)
        refine lv_icmp_gt (tgt := 114) hx hb dX2_takeSome_49 (by decide) (fun c51 => ?_) (fun c51 => ?_)
        · have fc51 := z_lt (rfl : (v50).toInt = _) (rfl : (x48_4).toInt = _) c51
          have hP9 : va_P (dC, dI) classes (WX h g ca (u2 (u2 iv 2 6 w48_i_2_6) 2 7 w48_i_2_7) lv (u2 fa 20 2 w48_a_20_2) (u2 (u2 la 20 0 w48_b_20_0) 20 1 w48_b_20_1)) H := hP
          have hD9 : va_D A (WX h g ca (u2 (u2 iv 2 6 w48_i_2_6) 2 7 w48_i_2_7) lv (u2 fa 20 2 w48_a_20_2) (u2 (u2 la 20 0 w48_b_20_0) 20 1 w48_b_20_1)) := hD
          exact W.vret hx hb hr (fun t ht9 hW => ⟨⟨((u2 (u2 iv 2 6 w48_i_2_6) 2 7 w48_i_2_7), lv, (u2 fa 20 2 w48_a_20_2), (u2 (u2 la 20 0 w48_b_20_0) 20 1 w48_b_20_1)), rfl, ⟨w48_a_20_2, w48_b_20_0, w48_b_20_1, w48_i_2_6, w48_i_2_7, (show ∀ j : Nat, j < 2 → w48_b_20_0 j = (la 20 0) j ∧ w48_b_20_1 j = (la 20 1) j from hq49_0), (show ∀ (pt : Int32) (w0 f0 : Nat), pt.toInt = (iv 2 5).toInt → (iv 2 6).toInt = (oN w0).toInt → (iv 2 7).toInt = (oN f0).toInt → (w48_i_2_6 : Int32).toInt = (oN (w0 + nT nO (fun q : Nat => ((fa 10 0) (9 * (((fa 2 2) q).toInt).toNat + 4)).toInt64) (fun q : Nat => ((fa 10 0) (9 * (((fa 2 2) q).toInt).toNat + 3)).toInt64) (((n).toInt).toNat - ((k).toInt).toNat) ((k).toInt).toNat 8 ((la 20 1) 1) ((la 20 0) 1))).toInt ∧ (w48_i_2_7 : Int32).toInt = (oN (f0 + nT (nF ((la 20 1) 0) ((la 20 0) 0) pt) (fun q : Nat => ((fa 10 0) (9 * (((fa 2 2) q).toInt).toNat + 4)).toInt64) (fun q : Nat => ((fa 10 0) (9 * (((fa 2 2) q).toInt).toNat + 3)).toInt64) (((n).toInt).toNat - ((k).toInt).toNat) ((k).toInt).toNat 8 ((la 20 1) 1) ((la 20 0) 1))).toInt from (fun pt w0 f0 hpt h1 h2 => by
                obtain ⟨u, v, hw, hf, q1, q2⟩ := hq49_1 pt w0 f0 hpt h1 h2
                rw [nT_0 ((n.toInt).toNat - ((x48_4 : Int32).toInt).toNat) ((x48_4 : Int32).toInt).toNat 8 (la 20 1 1) (la 20 0 1) (by omega)] at q1 q2
                rw [← q1, ← q2]
                exact ⟨hw, hf⟩)), rfl⟩, by rw [ht9]; exact hP9, hD9⟩, hS.F ht9⟩) hS.2.2 dX2_takeSome_114
        · have fc51 := z_nlt (rfl : (v50).toInt = _) (rfl : (x48_4).toInt = _) c51
          refine lv_aload_n hx hb dX2_takeSome_52 rfl (lv_at hl 1 rfl) ?_
          refine gX_2_2 hx hb ht hown hK hP m_306 dX2_takeSome_53 ?_
          refine lv_iload hx hb dX2_takeSome_56 (lv_at hl 0 rfl) ?_
          refine lX_2_2 hx hb hK hP (f := (fa 2 2)) rfl (vp_in_iff.mpr ⟨by omega, by omega⟩) dX2_takeSome_58 ?_
          refine lv_topi (fun v52 ev52 => ?_)
          have tv52 : 0 ≤ v52.toInt ∧ v52.toInt ≤ 59 := by rw [ev52]; exact hI.2 2 2 _
          refine lv_istore (lv' := [(5, .int v52), (4, .int x48_4), (0, .ref (g 11 6)), (1, .int 8), (2, .int k), (3, .int n)]) hx hb dX2_takeSome_59 hl (by decide) rfl (fun ls hl => ?_)
          refine lv_aload_n hx hb dX2_takeSome_61 rfl (lv_at hl 2 rfl) ?_
          refine lv_iconst (v := 1) hx hb dX2_takeSome_62 (by decide) ?_
          refine lv_iload hx hb dX2_takeSome_63 (lv_at hl 0 rfl) ?_
          have hFc := free_all hD hS hA
          refine va_callv (va_runV (As := [.int 1, .int v52]) (rest := []) ⟨hx, hb, hml, hown, ht⟩ (c_X2_heap_w l dC dI H.size h g ca (u2 (u2 iv 2 6 w48_i_2_6) 2 7 w48_i_2_7) lv (u2 fa 20 2 w48_a_20_2) (u2 (u2 la 20 0 w48_b_20_0) 20 1 w48_b_20_1) (IX_a (c := 20) (k := 2) (IX_i (c := 2) (k := 7) (IX_i (c := 2) (k := 6) hI (full_i _)) (full_i _)) hw48_a_20_2) 1 v52 ⟨by decide, by decide⟩ ⟨by omega, by omega⟩) (kV 2 ht m_890 m_892 m_33 m_85 m_893 rfl rfl hd_X2_heap_v ⟨Nat.le_of_ble_eq_true rfl, Nat.le_of_ble_eq_true rfl⟩) (vW hP hK hD (rX_2 hK hP)) rfl rfl hl.1 rfl (lv_room (Nat.le_of_ble_eq_true rfl)) dX2_takeSome_65 ⟨Nat.le_of_ble_eq_true rfl, Nat.le_of_ble_eq_true rfl⟩) hS (fun q _ h => hFc q h) hFc (fun u t H1 locs ht9 hvm hr53 hB hz1 hk1 hS => ?_)
          obtain ⟨n54, n55, n56, xr53_0, xr53_1, xr53_2, xr53_3, xr53_4, xr53_5, rfl⟩ := hr53
          have hn54 : ∀ j, inb (bA 20 2 j) (n54 j) := fun j => full_i _
          obtain ⟨hP, hD⟩ := hB
          rw [ht9] at hP
          generalize H1 = H at hP hS ⊢
          have hP : va_P (dC, dI) classes (WX h g ca (u2 (u2 iv 2 6 w48_i_2_6) 2 7 w48_i_2_7) lv (u2 fa 20 2 n54) (u2 (u2 la 20 0 n55) 20 1 n56)) H := hP
          have hD : va_D A (WX h g ca (u2 (u2 iv 2 6 w48_i_2_6) 2 7 w48_i_2_7) lv (u2 fa 20 2 n54) (u2 (u2 la 20 0 n55) 20 1 n56)) := (show va_D _ (WX h g ca (u2 (u2 iv 2 6 w48_i_2_6) 2 7 w48_i_2_7) lv (u2 fa 20 2 n54) (u2 (u2 la 20 0 n55) 20 1 n56)) from hD).weaken (fun _ _ _ h => hFc _ h)
          have xr53_0 : ∀ j : Nat, j ≠ (1 : Int32).toNatClampNeg → n55 j = w48_b_20_0 j := xr53_0
          have xr53_1 : ∀ j : Nat, j ≠ (1 : Int32).toNatClampNeg → n56 j = w48_b_20_1 j := xr53_1
          have xr53_2 : ∀ j : Nat, j ≠ (1 : Int32).toNatClampNeg → n54 j = w48_a_20_2 j := xr53_2
          have xr53_3 : n55 (1 : Int32).toNatClampNeg = w48_b_20_0 (1 : Int32).toNatClampNeg + ((fa 10 0) (9 * ((v52 : Int32).toInt).toNat + 3)).toInt64 := xr53_3
          have xr53_4 : n56 (1 : Int32).toNatClampNeg = w48_b_20_1 (1 : Int32).toNatClampNeg + ((fa 10 0) (9 * ((v52 : Int32).toInt).toNat + 4)).toInt64 := xr53_4
          have xr53_5 : n54 (1 : Int32).toNatClampNeg = w48_a_20_2 (1 : Int32).toNatClampNeg + 1 := xr53_5
          refine lv_aload_n hx hb dX2_takeSome_68 rfl (lv_at hl 2 rfl) ?_
          refine lv_iload_n hx hb dX2_takeSome_69 rfl (lv_at hl 3 rfl) ?_
          refine lv_iconst (v := 1) hx hb dX2_takeSome_70 (by decide) ?_
          refine lv_isub hx hb dX2_takeSome_71 ?_
          refine lv_topi (fun v57 ev57 => ?_)
          obtain rfl : 7 = v57 := (ev57.trans (by decide)).symm
          refine lv_iload hx hb dX2_takeSome_72 (lv_at hl 1 rfl) ?_
          refine lv_iconst (v := 1) hx hb dX2_takeSome_74 (by decide) ?_
          refine lv_iadd hx hb dX2_takeSome_75 ?_
          refine lv_topi (fun v58 ev58 => ?_)
          have tv58 := z_add ev58 (rfl : (x48_4).toInt = _) (by decide : (1 : Int32).toInt = 1) (by omega) (by omega)
          refine lv_iload_n hx hb dX2_takeSome_76 rfl (lv_at hl 5 rfl) ?_
          have hFc := free_all hD hS hA
          refine va_callv (va_runV (As := [.int 7, .int v58, .int n]) (rest := []) ⟨hx, hb, hml, hown, ht⟩ (c_X2_takeSome_w7 l dC dI H.size h g ca (u2 (u2 iv 2 6 w48_i_2_6) 2 7 w48_i_2_7) lv (u2 fa 20 2 n54) (u2 (u2 la 20 0 n55) 20 1 n56) (IX_a (c := 20) (k := 2) (IX_i (c := 2) (k := 7) (IX_i (c := 2) (k := 6) hI (full_i _)) (full_i _)) hn54) v58 n ⟨by omega, by omega⟩ ⟨by omega, by omega⟩) (kV 3 ht m_933 m_935 m_38 m_85 m_936 rfl rfl hd_X2_takeSome_v ⟨Nat.le_of_ble_eq_true rfl, Nat.le_of_ble_eq_true rfl⟩) (vW hP hK hD (rX_2 hK hP)) rfl rfl hl.1 rfl (lv_room (Nat.le_of_ble_eq_true rfl)) dX2_takeSome_77 ⟨Nat.le_of_ble_eq_true rfl, Nat.le_of_ble_eq_true rfl⟩) hS (fun q _ h => hFc q h) hFc (fun u t H1 locs ht9 hvm hr59 hB hz1 hk1 hS => ?_)
          obtain ⟨n60, n61, n62, n63, n64, xr59_0, xr59_1, rfl⟩ := hr59
          have hn60 : ∀ j, inb (bA 20 2 j) (n60 j) := fun j => full_i _
          obtain ⟨hP, hD⟩ := hB
          rw [ht9] at hP
          generalize H1 = H at hP hS ⊢
          have hP : va_P (dC, dI) classes (WX h g ca (u2 (u2 iv 2 6 n63) 2 7 n64) lv (u2 fa 20 2 n60) (u2 (u2 la 20 0 n61) 20 1 n62)) H := hP
          have hD : va_D A (WX h g ca (u2 (u2 iv 2 6 n63) 2 7 n64) lv (u2 fa 20 2 n60) (u2 (u2 la 20 0 n61) 20 1 n62)) := (show va_D _ (WX h g ca (u2 (u2 iv 2 6 n63) 2 7 n64) lv (u2 fa 20 2 n60) (u2 (u2 la 20 0 n61) 20 1 n62)) from hD).weaken (fun _ _ _ h => hFc _ h)
          have xr59_0 : ∀ j : Nat, j < 2 → n61 j = n55 j ∧ n62 j = n56 j := xr59_0
          have xr59_1 : ∀ (pt : Int32) (w0 f0 : Nat), pt.toInt = ((iv 2 5) : Int32).toInt → (w48_i_2_6 : Int32).toInt = (oN w0).toInt → (w48_i_2_7 : Int32).toInt = (oN f0).toInt → (n63 : Int32).toInt = (oN (w0 + nT nO (fun q : Nat => ((fa 10 0) (9 * (((fa 2 2) q).toInt).toNat + 4)).toInt64) (fun q : Nat => ((fa 10 0) (9 * (((fa 2 2) q).toInt).toNat + 3)).toInt64) (((n : Int32).toInt).toNat - ((v58 : Int32).toInt).toNat) ((v58 : Int32).toInt).toNat 7 (n56 1) (n55 1))).toInt ∧ (n64 : Int32).toInt = (oN (f0 + nT (nF (n56 0) (n55 0) pt) (fun q : Nat => ((fa 10 0) (9 * (((fa 2 2) q).toInt).toNat + 4)).toInt64) (fun q : Nat => ((fa 10 0) (9 * (((fa 2 2) q).toInt).toNat + 3)).toInt64) (((n : Int32).toInt).toNat - ((v58 : Int32).toInt).toNat) ((v58 : Int32).toInt).toNat 7 (n56 1) (n55 1))).toInt := xr59_1
          refine lv_aload_n hx hb dX2_takeSome_80 rfl (lv_at hl 2 rfl) ?_
          refine gX_2_1 hx hb ht hown hK hP m_305 dX2_takeSome_81 ?_
          refine lv_iconst (v := 1) hx hb dX2_takeSome_84 (by decide) ?_
          refine lv_aload_n hx hb dX2_takeSome_85 rfl (lv_at hl 2 rfl) ?_
          refine gX_2_0 hx hb ht hown hK hP m_304 dX2_takeSome_86 ?_
          refine lv_iload hx hb dX2_takeSome_89 (lv_at hl 0 rfl) ?_
          refine lv_iconst (v := 3) hx hb dX2_takeSome_91 (by decide) ?_
          refine vp_callSi (W.runV (As := [.int v52, .int 3]) (rest := [.int 1, .ref (g 2 1)]) ⟨hx, hb, hml, hown, ht⟩ (c_X10_get_x3 l dC dI h g ca (u2 (u2 iv 2 6 n63) 2 7 n64) lv (u2 fa 20 2 n60) (u2 (u2 la 20 0 n61) 20 1 n62) (IX_a (c := 20) (k := 2) (IX_i (c := 2) (k := 7) (IX_i (c := 2) (k := 6) hI (full_i _)) (full_i _)) hn60) v52 ⟨by omega, by omega⟩) (kV 2 ht m_889 m_486 m_487 m_78 m_488 rfl rfl hd_X10_get_v ⟨Nat.le_of_ble_eq_true rfl, Nat.le_of_ble_eq_true rfl⟩) (vR hP hK (rX_10 hK hP)) rfl rfl hl.1 rfl (lv_room (Nat.le_of_ble_eq_true rfl)) dX2_takeSome_92 ⟨Nat.le_of_ble_eq_true rfl, Nat.le_of_ble_eq_true rfl⟩) (fun r65 hr65 => ?_)
          obtain ⟨hr65, xr65_0⟩ := hr65
          have xr65_0 : (r65 : Int32).toInt = ((fa 10 0) (9 * ((v52 : Int32).toInt).toNat + 3)).toInt := xr65_0
          refine lv_aload_n hx hb dX2_takeSome_95 rfl (lv_at hl 2 rfl) ?_
          refine gX_2_0 hx hb ht hown hK hP m_304 dX2_takeSome_96 ?_
          refine lv_iload hx hb dX2_takeSome_99 (lv_at hl 0 rfl) ?_
          refine lv_iconst (v := 4) hx hb dX2_takeSome_101 (by decide) ?_
          refine vp_callSi (W.runV (As := [.int v52, .int 4]) (rest := [.int r65, .int 1, .ref (g 2 1)]) ⟨hx, hb, hml, hown, ht⟩ (c_X10_get_x4 l dC dI h g ca (u2 (u2 iv 2 6 n63) 2 7 n64) lv (u2 fa 20 2 n60) (u2 (u2 la 20 0 n61) 20 1 n62) (IX_a (c := 20) (k := 2) (IX_i (c := 2) (k := 7) (IX_i (c := 2) (k := 6) hI (full_i _)) (full_i _)) hn60) v52 ⟨by omega, by omega⟩) (kV 2 ht m_889 m_486 m_487 m_78 m_488 rfl rfl hd_X10_get_v ⟨Nat.le_of_ble_eq_true rfl, Nat.le_of_ble_eq_true rfl⟩) (vR hP hK (rX_10 hK hP)) rfl rfl hl.1 rfl (lv_room (Nat.le_of_ble_eq_true rfl)) dX2_takeSome_102 ⟨Nat.le_of_ble_eq_true rfl, Nat.le_of_ble_eq_true rfl⟩) (fun r66 hr66 => ?_)
          obtain ⟨hr66, xr66_0⟩ := hr66
          have xr66_0 : (r66 : Int32).toInt = ((fa 10 0) (9 * ((v52 : Int32).toInt).toNat + 4)).toInt := xr66_0
          have hFc := free_all hD hS hA
          refine va_callv (va_runV (As := [.int 1, .int r65, .int r66]) (rest := []) ⟨hx, hb, hml, hown, ht⟩ (c_X7_remove_s20 l dC dI H.size h g ca (u2 (u2 iv 2 6 n63) 2 7 n64) lv (u2 fa 20 2 n60) (u2 (u2 la 20 0 n61) 20 1 n62) (IX_a (c := 20) (k := 2) (IX_i (c := 2) (k := 7) (IX_i (c := 2) (k := 6) hI (full_i _)) (full_i _)) hn60) 1 r65 r66 ⟨by decide, by decide⟩) (kV 3 ht m_937 m_938 m_939 m_84 m_940 rfl rfl hd_X7_remove_v ⟨Nat.le_of_ble_eq_true rfl, Nat.le_of_ble_eq_true rfl⟩) (vW hP hK hD (rX_20 hK hP)) rfl rfl hl.1 rfl (lv_room (Nat.le_of_ble_eq_true rfl)) dX2_takeSome_105 ⟨Nat.le_of_ble_eq_true rfl, Nat.le_of_ble_eq_true rfl⟩) hS (fun q _ h => hFc q h) hFc (fun u t H1 locs ht9 hvm hr67 hB hz1 hk1 hS => ?_)
          obtain ⟨n68, n69, n70, xr67_0, xr67_1, xr67_2, xr67_3, rfl⟩ := hr67
          have hn68 : ∀ j, inb (bA 20 2 j) (n68 j) := fun j => full_i _
          obtain ⟨hP, hD⟩ := hB
          rw [ht9] at hP
          generalize H1 = H at hP hS ⊢
          have hP : va_P (dC, dI) classes (WX h g ca (u2 (u2 iv 2 6 n63) 2 7 n64) lv (u2 fa 20 2 n68) (u2 (u2 la 20 0 n69) 20 1 n70)) H := hP
          have hD : va_D A (WX h g ca (u2 (u2 iv 2 6 n63) 2 7 n64) lv (u2 fa 20 2 n68) (u2 (u2 la 20 0 n69) 20 1 n70)) := (show va_D _ (WX h g ca (u2 (u2 iv 2 6 n63) 2 7 n64) lv (u2 fa 20 2 n68) (u2 (u2 la 20 0 n69) 20 1 n70)) from hD).weaken (fun _ _ _ h => hFc _ h)
          have xr67_0 : ∀ j : Nat, j ≠ (1 : Int32).toNatClampNeg → n69 j = n61 j := xr67_0
          have xr67_1 : ∀ j : Nat, j ≠ (1 : Int32).toNatClampNeg → n70 j = n62 j := xr67_1
          have xr67_2 : n69 (1 : Int32).toNatClampNeg = n61 (1 : Int32).toNatClampNeg - ((r65 : Int32)).toInt64 := xr67_2
          have xr67_3 : n70 (1 : Int32).toNatClampNeg = n62 (1 : Int32).toNatClampNeg - ((r66 : Int32)).toInt64 := xr67_3
          obtain ⟨v71, ev71⟩ : ∃ y : Int32, y = x48_4 + 1 := ⟨_, rfl⟩
          have tv71 := z_add ev71 rfl (by decide : (1 : Int32).toInt = 1) (by omega) (by omega)
          refine lv_iinc (v := v71) (lv' := [(4, .int v71), (5, .int v52), (0, .ref (g 11 6)), (1, .int 8), (2, .int k), (3, .int n)]) hx hb dX2_takeSome_108 hl (k := 1) rfl (by rw [ev71]; rfl) (by decide) rfl (fun ls hl => ?_)
          refine lv_goto (tgt := 44) hx hb dX2_takeSome_111 (by decide) ?_
          exact ih49 v71 n63 n64 n68 n69 n70 ⟨by omega, by omega⟩ hn68 (show ∀ j : Nat, j < 2 → n69 j = (la 20 0) j ∧ n70 j = (la 20 1) j from (fun j hj => by
                have z11 : (1 : Int32).toNatClampNeg = 1 := (by decide)
                have z10 : (0 : Nat) ≠ (1 : Int32).toNatClampNeg := (by decide)
                have hv9 : (v52 : Int32) = fa 2 2 ((x48_4 : Int32).toInt).toNat := ev52
                have p3 := xr53_3
                have p4 := xr53_4
                rw [z11] at p3 p4
                have k0 := hq49_0 0 (by decide)
                have k1 := hq49_0 1 (by decide)
                have hB : n55 1 = (la 20 0 1) + (fun q : Nat => ((fa 10 0) (9 * (((fa 2 2) q).toInt).toNat + 3)).toInt64) ((x48_4 : Int32).toInt).toNat := by rw [p3, k1.1, hv9]
                have hA : n56 1 = (la 20 1 1) + (fun q : Nat => ((fa 10 0) (9 * (((fa 2 2) q).toInt).toNat + 4)).toInt64) ((x48_4 : Int32).toInt).toNat := by rw [p4, k1.2, hv9]
                have hR : n55 0 = (la 20 0 0) := by rw [xr53_0 0 z10]; exact k0.1
                have hD : n56 0 = (la 20 1 0) := by rw [xr53_1 0 z10]; exact k0.2
                have hr3 : (r65 : Int32) = fa 10 0 (9 * ((v52 : Int32).toInt).toNat + 3) := Int32.toInt_inj.mp xr65_0
                have hr4 : (r66 : Int32) = fa 10 0 (9 * ((v52 : Int32).toInt).toNat + 4) := Int32.toInt_inj.mp xr66_0
                have m2 := xr67_2
                have m3 := xr67_3
                rw [z11] at m2 m3
                rcases (by omega : j = 0 ∨ j = 1) with rfl | rfl
                · rw [xr67_0 0 z10, xr67_1 0 z10, (xr59_0 0 (by decide)).1, (xr59_0 0 (by decide)).2, hR, hD]
                  exact ⟨rfl, rfl⟩
                · rw [m2, m3, (xr59_0 1 (by decide)).1, (xr59_0 1 (by decide)).2, p3, p4, hr3, hr4, Int64.add_sub_cancel, Int64.add_sub_cancel]
                  exact k1)) (show ∀ (pt : Int32) (w0 f0 : Nat), pt.toInt = (iv 2 5).toInt → (iv 2 6).toInt = (oN w0).toInt → (iv 2 7).toInt = (oN f0).toInt → ∃ u v : Nat, (n63 : Int32).toInt = (oN u).toInt ∧ (n64 : Int32).toInt = (oN v).toInt ∧ u + nT nO (fun q : Nat => ((fa 10 0) (9 * (((fa 2 2) q).toInt).toNat + 4)).toInt64) (fun q : Nat => ((fa 10 0) (9 * (((fa 2 2) q).toInt).toNat + 3)).toInt64) (((n).toInt).toNat - ((v71 : Int32).toInt).toNat) ((v71 : Int32).toInt).toNat 8 (la 20 1 1) (la 20 0 1) = w0 + nT nO (fun q : Nat => ((fa 10 0) (9 * (((fa 2 2) q).toInt).toNat + 4)).toInt64) (fun q : Nat => ((fa 10 0) (9 * (((fa 2 2) q).toInt).toNat + 3)).toInt64) (((n).toInt).toNat - ((k).toInt).toNat) ((k).toInt).toNat 8 (la 20 1 1) (la 20 0 1) ∧ v + nT (nF (la 20 1 0) (la 20 0 0) pt) (fun q : Nat => ((fa 10 0) (9 * (((fa 2 2) q).toInt).toNat + 4)).toInt64) (fun q : Nat => ((fa 10 0) (9 * (((fa 2 2) q).toInt).toNat + 3)).toInt64) (((n).toInt).toNat - ((v71 : Int32).toInt).toNat) ((v71 : Int32).toInt).toNat 8 (la 20 1 1) (la 20 0 1) = f0 + nT (nF (la 20 1 0) (la 20 0 0) pt) (fun q : Nat => ((fa 10 0) (9 * (((fa 2 2) q).toInt).toNat + 4)).toInt64) (fun q : Nat => ((fa 10 0) (9 * (((fa 2 2) q).toInt).toNat + 3)).toInt64) (((n).toInt).toNat - ((k).toInt).toNat) ((k).toInt).toNat 8 (la 20 1 1) (la 20 0 1) from (fun pt w0 f0 hpt h1 h2 => by
                have z11 : (1 : Int32).toNatClampNeg = 1 := (by decide)
                have z10 : (0 : Nat) ≠ (1 : Int32).toNatClampNeg := (by decide)
                have hv9 : (v52 : Int32) = fa 2 2 ((x48_4 : Int32).toInt).toNat := ev52
                have p3 := xr53_3
                have p4 := xr53_4
                rw [z11] at p3 p4
                have k0 := hq49_0 0 (by decide)
                have k1 := hq49_0 1 (by decide)
                have hB : n55 1 = (la 20 0 1) + (fun q : Nat => ((fa 10 0) (9 * (((fa 2 2) q).toInt).toNat + 3)).toInt64) ((x48_4 : Int32).toInt).toNat := by rw [p3, k1.1, hv9]
                have hA : n56 1 = (la 20 1 1) + (fun q : Nat => ((fa 10 0) (9 * (((fa 2 2) q).toInt).toNat + 4)).toInt64) ((x48_4 : Int32).toInt).toNat := by rw [p4, k1.2, hv9]
                have hR : n55 0 = (la 20 0 0) := by rw [xr53_0 0 z10]; exact k0.1
                have hD : n56 0 = (la 20 1 0) := by rw [xr53_1 0 z10]; exact k0.2
                obtain ⟨u, v, hw, hf, q1, q2⟩ := hq49_1 pt w0 f0 hpt h1 h2
                have hs9 : ((v71 : Int32).toInt).toNat = ((x48_4 : Int32).toInt).toNat + 1 := by omega
                have hk9 : ((v58 : Int32).toInt).toNat = ((x48_4 : Int32).toInt).toNat + 1 := by omega
                have hc9 := xr59_1 pt u v hpt hw hf
                rw [hA, hB, hD, hR, hk9] at hc9
                have hr9 : (n.toInt).toNat - ((x48_4 : Int32).toInt).toNat = (n.toInt).toNat - (((x48_4 : Int32).toInt).toNat + 1) + 1 := by omega
                have y1 := Tk_st (m' := 7) hr9 rfl q1
                have y2 := Tk_st (m' := 7) hr9 rfl q2
                rw [hs9]
                exact ⟨_, _, hc9.1, hc9.2, y1, y2⟩)) (by omega) _ _ ls hP hD hS (lv_sub hl [0, 2, 3, 4, 5] rfl)
    exact lp49 13 k (iv 2 6) (iv 2 7) (fa 20 2) (la 20 0) (la 20 1) ⟨by omega, by omega⟩ (hI.2 20 2) (show ∀ j : Nat, j < 2 → (la 20 0) j = (la 20 0) j ∧ (la 20 1) j = (la 20 1) j from (fun j hj => ⟨rfl, rfl⟩)) (show ∀ (pt : Int32) (w0 f0 : Nat), pt.toInt = (iv 2 5).toInt → (iv 2 6).toInt = (oN w0).toInt → (iv 2 7).toInt = (oN f0).toInt → ∃ u v : Nat, ((iv 2 6) : Int32).toInt = (oN u).toInt ∧ ((iv 2 7) : Int32).toInt = (oN v).toInt ∧ u + nT nO (fun q : Nat => ((fa 10 0) (9 * (((fa 2 2) q).toInt).toNat + 4)).toInt64) (fun q : Nat => ((fa 10 0) (9 * (((fa 2 2) q).toInt).toNat + 3)).toInt64) (((n).toInt).toNat - ((k : Int32).toInt).toNat) ((k : Int32).toInt).toNat 8 (la 20 1 1) (la 20 0 1) = w0 + nT nO (fun q : Nat => ((fa 10 0) (9 * (((fa 2 2) q).toInt).toNat + 4)).toInt64) (fun q : Nat => ((fa 10 0) (9 * (((fa 2 2) q).toInt).toNat + 3)).toInt64) (((n).toInt).toNat - ((k).toInt).toNat) ((k).toInt).toNat 8 (la 20 1 1) (la 20 0 1) ∧ v + nT (nF (la 20 1 0) (la 20 0 0) pt) (fun q : Nat => ((fa 10 0) (9 * (((fa 2 2) q).toInt).toNat + 4)).toInt64) (fun q : Nat => ((fa 10 0) (9 * (((fa 2 2) q).toInt).toNat + 3)).toInt64) (((n).toInt).toNat - ((k : Int32).toInt).toNat) ((k : Int32).toInt).toNat 8 (la 20 1 1) (la 20 0 1) = f0 + nT (nF (la 20 1 0) (la 20 0 0) pt) (fun q : Nat => ((fa 10 0) (9 * (((fa 2 2) q).toInt).toNat + 4)).toInt64) (fun q : Nat => ((fa 10 0) (9 * (((fa 2 2) q).toInt).toNat + 3)).toInt64) (((n).toInt).toNat - ((k).toInt).toNat) ((k).toInt).toNat 8 (la 20 1 1) (la 20 0 1) from (fun pt w0 f0 hpt h1 h2 => ⟨w0, f0, h1, h2, rfl, rfl⟩)) (by first | decide | omega) _ _ ls hP hD hS (lv_sub hl [0, 1, 2, 3, 4] rfl)
  · exact absurd c1 (by decide)
set_option maxHeartbeats 4000000 in
set_option maxRecDepth 100000 in
/-- X2_takeSome -/
theorem c_X2_takeSome_w9 (l : Launch) (dC : Nat → ClassId) (dI : Nat → Nat → Nat) (sz : Nat) (h : Nat) (g : Nat → Nat → Nat) (ca : Nat → Nat → ClassId) (iv : Nat → Nat → Int32) (lv : Nat → Nat → Int64) (fa : Nat → Nat → Nat → Int32) (la : Nat → Nat → Nat → Int64) (hI : IX iv fa) (k : Int32) (n : Int32) (h_k : 0 ≤ k.toInt ∧ k.toInt ≤ 12) (h_n : 0 ≤ n.toInt ∧ n.toInt ≤ 12) : Met l yX2_takeSome (wc yX2_takeSome cX2_takeSome 6 none) ({ frames := 11, cells := 0, slots := 0, locals := 288 } : Room) (pW (dC, dI) classes (WX h g ca iv lv fa la) (TX ca) sz [.ref (g 11 6), .int 9, .int k, .int n]) (va_Qv (fun (u : SS) => ∃ (na_20_2 : Nat → Int32) (nb_20_0 : Nat → Int64) (nb_20_1 : Nat → Int64) (ni_2_6 : Int32) (ni_2_7 : Int32), (∀ j : Nat, j < 2 → nb_20_0 j = (la 20 0) j ∧ nb_20_1 j = (la 20 1) j) ∧ (∀ (pt : Int32) (w0 f0 : Nat), pt.toInt = (iv 2 5).toInt → (iv 2 6).toInt = (oN w0).toInt → (iv 2 7).toInt = (oN f0).toInt → (ni_2_6).toInt = (oN (w0 + nT nO (fun q : Nat => ((fa 10 0) (9 * (((fa 2 2) q).toInt).toNat + 4)).toInt64) (fun q : Nat => ((fa 10 0) (9 * (((fa 2 2) q).toInt).toNat + 3)).toInt64) ((n.toInt).toNat - (k.toInt).toNat) (k.toInt).toNat 9 ((la 20 1) 1) ((la 20 0) 1))).toInt ∧ (ni_2_7).toInt = (oN (f0 + nT (nF ((la 20 1) 0) ((la 20 0) 0) pt) (fun q : Nat => ((fa 10 0) (9 * (((fa 2 2) q).toInt).toNat + 4)).toInt64) (fun q : Nat => ((fa 10 0) (9 * (((fa 2 2) q).toInt).toNat + 3)).toInt64) ((n.toInt).toNat - (k.toInt).toNat) (k.toInt).toNat 9 ((la 20 1) 1) ((la 20 0) 1))).toInt) ∧ u = ((u2 (u2 iv 2 6 ni_2_6) 2 7 ni_2_7), lv, (u2 fa 20 2 na_20_2), (u2 (u2 la 20 0 nb_20_0) 20 1 nb_20_1))) (bX (dC, dI) h g ca (va_A (WX h g ca iv lv fa la) sz)) (va_A (WX h g ca iv lv fa la) sz)) 0 0 (va_A (WX h g ca iv lv fa la) sz) := by
  refine Met.ofW (cc := cX2_takeSome) (maxL := 6) (ret := none) (by decide) rfl ?_
  intro p e s m args below meth c s₁ B hml hv
  obtain ⟨rfl, hsz, hP, hK, hD0⟩ := hv
  have hx := B.exec
  have hb := B.bytes
  have hr := B.returns
  have ht := tb_tl (atoms_spec (ws := wc yX2_takeSome cX2_takeSome 6 none) B.pre)
  have hown : s.vm.findClass RX2 = some m.cls := findClass_of_methodNamed B.named
  have hlocks := B.notSynchronized
  subst hsz
  have hD := hD0.self (sz := s.heap.size)
  generalize hAe : va_A (WX h g ca iv lv fa la) s.heap.size = A at hD ⊢
  have hA : ∀ q : Nat, s.heap.size ≤ q → A q := fun q h => by rw [← hAe]; exact Or.inr h
  have hS : va_S A s.heap s.heap [] := va_S.rf
  have hl := lv_entry [.ref (g 11 6), .int 9, .int k, .int n] (n := 6) (Nat.le_of_ble_eq_true rfl)
  rw [lg_entry_eq]
  generalize (lg_sl [.ref (g 11 6), .int 9, .int k, .int n] ++ List.replicate (6 - (lg_sl [.ref (g 11 6), .int 9, .int k, .int n]).length) Slot.unset).toArray = ls at hl ⊢
  have hl : lv_has ls 6 [(0, .ref (g 11 6)), (1, .int 9), (2, .int k), (3, .int n)] := hl
  refine lv_iload_n hx hb dX2_takeSome_0 rfl (lv_at hl 1 rfl) ?_
  refine lv_if_gt (tgt := 41) hx hb dX2_takeSome_1 (by decide) (fun c1 => ?_) (fun c1 => ?_)
  · skip
    refine lv_iload_n hx hb dX2_takeSome_41 rfl (lv_at hl 2 rfl) ?_
    refine lv_istore (lv' := [(4, .int k), (0, .ref (g 11 6)), (1, .int 9), (2, .int k), (3, .int n)]) hx hb dX2_takeSome_42 hl (by decide) rfl (fun ls hl => ?_)
    have lp49 : ∀ (nn49 : Nat) (x48_4 : Int32) (w48_i_2_6 : Int32) (w48_i_2_7 : Int32) (w48_a_20_2 : Nat → Int32) (w48_b_20_0 : Nat → Int64) (w48_b_20_1 : Nat → Int64), 0 ≤ x48_4.toInt ∧ x48_4.toInt ≤ 12 → (∀ j, inb (bA 20 2 j) (w48_a_20_2 j)) → (∀ j : Nat, j < 2 → w48_b_20_0 j = (la 20 0) j ∧ w48_b_20_1 j = (la 20 1) j) → (∀ (pt : Int32) (w0 f0 : Nat), pt.toInt = (iv 2 5).toInt → (iv 2 6).toInt = (oN w0).toInt → (iv 2 7).toInt = (oN f0).toInt → ∃ u v : Nat, (w48_i_2_6 : Int32).toInt = (oN u).toInt ∧ (w48_i_2_7 : Int32).toInt = (oN v).toInt ∧ u + nT nO (fun q : Nat => ((fa 10 0) (9 * (((fa 2 2) q).toInt).toNat + 4)).toInt64) (fun q : Nat => ((fa 10 0) (9 * (((fa 2 2) q).toInt).toNat + 3)).toInt64) (((n).toInt).toNat - ((x48_4 : Int32).toInt).toNat) ((x48_4 : Int32).toInt).toNat 9 (la 20 1 1) (la 20 0 1) = w0 + nT nO (fun q : Nat => ((fa 10 0) (9 * (((fa 2 2) q).toInt).toNat + 4)).toInt64) (fun q : Nat => ((fa 10 0) (9 * (((fa 2 2) q).toInt).toNat + 3)).toInt64) (((n).toInt).toNat - ((k).toInt).toNat) ((k).toInt).toNat 9 (la 20 1 1) (la 20 0 1) ∧ v + nT (nF (la 20 1 0) (la 20 0 0) pt) (fun q : Nat => ((fa 10 0) (9 * (((fa 2 2) q).toInt).toNat + 4)).toInt64) (fun q : Nat => ((fa 10 0) (9 * (((fa 2 2) q).toInt).toNat + 3)).toInt64) (((n).toInt).toNat - ((x48_4 : Int32).toInt).toNat) ((x48_4 : Int32).toInt).toNat 9 (la 20 1 1) (la 20 0 1) = f0 + nT (nF (la 20 1 0) (la 20 0 0) pt) (fun q : Nat => ((fa 10 0) (9 * (((fa 2 2) q).toInt).toNat + 4)).toInt64) (fun q : Nat => ((fa 10 0) (9 * (((fa 2 2) q).toInt).toNat + 3)).toInt64) (((n).toInt).toNat - ((k).toInt).toNat) ((k).toInt).toNat 9 (la 20 1 1) (la 20 0 1)) → 12 - x48_4.toInt < (nn49 : Int) → ∀ (H : Heap) (locs : List Loc), ∀ (ls : Array Slot), va_P (dC, dI) classes (WX h g ca (u2 (u2 iv 2 6 w48_i_2_6) 2 7 w48_i_2_7) lv (u2 fa 20 2 w48_a_20_2) (u2 (u2 la 20 0 w48_b_20_0) 20 1 w48_b_20_1)) H → va_D A (WX h g ca (u2 (u2 iv 2 6 w48_i_2_6) 2 7 w48_i_2_7) lv (u2 fa 20 2 w48_a_20_2) (u2 (u2 la 20 0 w48_b_20_0) 20 1 w48_b_20_1)) → va_S A s.heap H locs → lv_has ls 6 [(4, .int x48_4), (0, .ref (g 11 6)), (1, .int 9), (2, .int k), (3, .int n)] → W p l e ({ frames := 11, cells := 0, slots := 0, locals := 288 } : Room) s m ([.ref (g 11 6), .int 9, .int k, .int n] : List Value).toArray below meth c H locs 0 0 (MQ below (va_Qv (fun (u : SS) => ∃ (na_20_2 : Nat → Int32) (nb_20_0 : Nat → Int64) (nb_20_1 : Nat → Int64) (ni_2_6 : Int32) (ni_2_7 : Int32), (∀ j : Nat, j < 2 → nb_20_0 j = (la 20 0) j ∧ nb_20_1 j = (la 20 1) j) ∧ (∀ (pt : Int32) (w0 f0 : Nat), pt.toInt = (iv 2 5).toInt → (iv 2 6).toInt = (oN w0).toInt → (iv 2 7).toInt = (oN f0).toInt → (ni_2_6).toInt = (oN (w0 + nT nO (fun q : Nat => ((fa 10 0) (9 * (((fa 2 2) q).toInt).toNat + 4)).toInt64) (fun q : Nat => ((fa 10 0) (9 * (((fa 2 2) q).toInt).toNat + 3)).toInt64) ((n.toInt).toNat - (k.toInt).toNat) (k.toInt).toNat 9 ((la 20 1) 1) ((la 20 0) 1))).toInt ∧ (ni_2_7).toInt = (oN (f0 + nT (nF ((la 20 1) 0) ((la 20 0) 0) pt) (fun q : Nat => ((fa 10 0) (9 * (((fa 2 2) q).toInt).toNat + 4)).toInt64) (fun q : Nat => ((fa 10 0) (9 * (((fa 2 2) q).toInt).toNat + 3)).toInt64) ((n.toInt).toNat - (k.toInt).toNat) (k.toInt).toNat 9 ((la 20 1) 1) ((la 20 0) 1))).toInt) ∧ u = ((u2 (u2 iv 2 6 ni_2_6) 2 7 ni_2_7), lv, (u2 fa 20 2 na_20_2), (u2 (u2 la 20 0 nb_20_0) 20 1 nb_20_1))) (bX (dC, dI) h g ca A) A) ([.ref (g 11 6), .int 9, .int k, .int n] : List Value).toArray s 0 0 A) (F0 m 44 ls []) := by
      intro nn49
      induction nn49 with
      | zero => intro x48_4 w48_i_2_6 w48_i_2_7 w48_a_20_2 w48_b_20_0 w48_b_20_1 hx48_4 hw48_a_20_2 hq49_0 hq49_1 hm49; exfalso; omega
      | succ nn49 ih49 =>
        intro x48_4 w48_i_2_6 w48_i_2_7 w48_a_20_2 w48_b_20_0 w48_b_20_1 hx48_4 hw48_a_20_2 hq49_0 hq49_1 hm49 H locs ls hP hD hS hl
        refine lv_iload hx hb dX2_takeSome_44 (lv_at hl 0 rfl) ?_
        refine lv_iload_n hx hb dX2_takeSome_46 rfl (lv_at hl 4 rfl) ?_
        refine lv_iload_n hx hb dX2_takeSome_47 rfl (lv_at hl 2 rfl) ?_
        refine lv_isub hx hb dX2_takeSome_48 ?_
        refine lv_topi (fun v50 ev50 => ?_)
        have tv50 := z_sub ev50 (rfl : (n).toInt = _) (by decide : (9 : Int32).toInt = 9) (by omega) (by omega)
        refine lv_icmp_gt (tgt := 114) hx hb dX2_takeSome_49 (by decide) (fun c51 => ?_) (fun c51 => ?_)
        · have fc51 := z_lt (rfl : (v50).toInt = _) (rfl : (x48_4).toInt = _) c51
          have hP9 : va_P (dC, dI) classes (WX h g ca (u2 (u2 iv 2 6 w48_i_2_6) 2 7 w48_i_2_7) lv (u2 fa 20 2 w48_a_20_2) (u2 (u2 la 20 0 w48_b_20_0) 20 1 w48_b_20_1)) H := hP
          have hD9 : va_D A (WX h g ca (u2 (u2 iv 2 6 w48_i_2_6) 2 7 w48_i_2_7) lv (u2 fa 20 2 w48_a_20_2) (u2 (u2 la 20 0 w48_b_20_0) 20 1 w48_b_20_1)) := hD
          exact W.vret hx hb hr (fun t ht9 hW => ⟨⟨((u2 (u2 iv 2 6 w48_i_2_6) 2 7 w48_i_2_7), lv, (u2 fa 20 2 w48_a_20_2), (u2 (u2 la 20 0 w48_b_20_0) 20 1 w48_b_20_1)), rfl, ⟨w48_a_20_2, w48_b_20_0, w48_b_20_1, w48_i_2_6, w48_i_2_7, (show ∀ j : Nat, j < 2 → w48_b_20_0 j = (la 20 0) j ∧ w48_b_20_1 j = (la 20 1) j from hq49_0), (show ∀ (pt : Int32) (w0 f0 : Nat), pt.toInt = (iv 2 5).toInt → (iv 2 6).toInt = (oN w0).toInt → (iv 2 7).toInt = (oN f0).toInt → (w48_i_2_6 : Int32).toInt = (oN (w0 + nT nO (fun q : Nat => ((fa 10 0) (9 * (((fa 2 2) q).toInt).toNat + 4)).toInt64) (fun q : Nat => ((fa 10 0) (9 * (((fa 2 2) q).toInt).toNat + 3)).toInt64) (((n).toInt).toNat - ((k).toInt).toNat) ((k).toInt).toNat 9 ((la 20 1) 1) ((la 20 0) 1))).toInt ∧ (w48_i_2_7 : Int32).toInt = (oN (f0 + nT (nF ((la 20 1) 0) ((la 20 0) 0) pt) (fun q : Nat => ((fa 10 0) (9 * (((fa 2 2) q).toInt).toNat + 4)).toInt64) (fun q : Nat => ((fa 10 0) (9 * (((fa 2 2) q).toInt).toNat + 3)).toInt64) (((n).toInt).toNat - ((k).toInt).toNat) ((k).toInt).toNat 9 ((la 20 1) 1) ((la 20 0) 1))).toInt from (fun pt w0 f0 hpt h1 h2 => by
                obtain ⟨u, v, hw, hf, q1, q2⟩ := hq49_1 pt w0 f0 hpt h1 h2
                rw [nT_0 ((n.toInt).toNat - ((x48_4 : Int32).toInt).toNat) ((x48_4 : Int32).toInt).toNat 9 (la 20 1 1) (la 20 0 1) (by omega)] at q1 q2
                rw [← q1, ← q2]
                exact ⟨hw, hf⟩)), rfl⟩, by rw [ht9]; exact hP9, hD9⟩, hS.F ht9⟩) hS.2.2 dX2_takeSome_114
        · have fc51 := z_nlt (rfl : (v50).toInt = _) (rfl : (x48_4).toInt = _) c51
          refine lv_aload_n hx hb dX2_takeSome_52 rfl (lv_at hl 1 rfl) ?_
          refine gX_2_2 hx hb ht hown hK hP m_306 dX2_takeSome_53 ?_
          refine lv_iload hx hb dX2_takeSome_56 (lv_at hl 0 rfl) ?_
          refine lX_2_2 hx hb hK hP (f := (fa 2 2)) rfl (vp_in_iff.mpr ⟨by omega, by omega⟩) dX2_takeSome_58 ?_
          refine lv_topi (fun v52 ev52 => ?_)
          have tv52 : 0 ≤ v52.toInt ∧ v52.toInt ≤ 59 := by rw [ev52]; exact hI.2 2 2 _
          refine lv_istore (lv' := [(5, .int v52), (4, .int x48_4), (0, .ref (g 11 6)), (1, .int 9), (2, .int k), (3, .int n)]) hx hb dX2_takeSome_59 hl (by decide) rfl (fun ls hl => ?_)
          refine lv_aload_n hx hb dX2_takeSome_61 rfl (lv_at hl 2 rfl) ?_
          refine lv_iconst (v := 1) hx hb dX2_takeSome_62 (by decide) ?_
          refine lv_iload hx hb dX2_takeSome_63 (lv_at hl 0 rfl) ?_
          have hFc := free_all hD hS hA
          refine va_callv (va_runV (As := [.int 1, .int v52]) (rest := []) ⟨hx, hb, hml, hown, ht⟩ (c_X2_heap_w l dC dI H.size h g ca (u2 (u2 iv 2 6 w48_i_2_6) 2 7 w48_i_2_7) lv (u2 fa 20 2 w48_a_20_2) (u2 (u2 la 20 0 w48_b_20_0) 20 1 w48_b_20_1) (IX_a (c := 20) (k := 2) (IX_i (c := 2) (k := 7) (IX_i (c := 2) (k := 6) hI (full_i _)) (full_i _)) hw48_a_20_2) 1 v52 ⟨by decide, by decide⟩ ⟨by omega, by omega⟩) (kV 2 ht m_890 m_892 m_33 m_85 m_893 rfl rfl hd_X2_heap_v ⟨Nat.le_of_ble_eq_true rfl, Nat.le_of_ble_eq_true rfl⟩) (vW hP hK hD (rX_2 hK hP)) rfl rfl hl.1 rfl (lv_room (Nat.le_of_ble_eq_true rfl)) dX2_takeSome_65 ⟨Nat.le_of_ble_eq_true rfl, Nat.le_of_ble_eq_true rfl⟩) hS (fun q _ h => hFc q h) hFc (fun u t H1 locs ht9 hvm hr53 hB hz1 hk1 hS => ?_)
          obtain ⟨n54, n55, n56, xr53_0, xr53_1, xr53_2, xr53_3, xr53_4, xr53_5, rfl⟩ := hr53
          have hn54 : ∀ j, inb (bA 20 2 j) (n54 j) := fun j => full_i _
          obtain ⟨hP, hD⟩ := hB
          rw [ht9] at hP
          generalize H1 = H at hP hS ⊢
          have hP : va_P (dC, dI) classes (WX h g ca (u2 (u2 iv 2 6 w48_i_2_6) 2 7 w48_i_2_7) lv (u2 fa 20 2 n54) (u2 (u2 la 20 0 n55) 20 1 n56)) H := hP
          have hD : va_D A (WX h g ca (u2 (u2 iv 2 6 w48_i_2_6) 2 7 w48_i_2_7) lv (u2 fa 20 2 n54) (u2 (u2 la 20 0 n55) 20 1 n56)) := (show va_D _ (WX h g ca (u2 (u2 iv 2 6 w48_i_2_6) 2 7 w48_i_2_7) lv (u2 fa 20 2 n54) (u2 (u2 la 20 0 n55) 20 1 n56)) from hD).weaken (fun _ _ _ h => hFc _ h)
          have xr53_0 : ∀ j : Nat, j ≠ (1 : Int32).toNatClampNeg → n55 j = w48_b_20_0 j := xr53_0
          have xr53_1 : ∀ j : Nat, j ≠ (1 : Int32).toNatClampNeg → n56 j = w48_b_20_1 j := xr53_1
          have xr53_2 : ∀ j : Nat, j ≠ (1 : Int32).toNatClampNeg → n54 j = w48_a_20_2 j := xr53_2
          have xr53_3 : n55 (1 : Int32).toNatClampNeg = w48_b_20_0 (1 : Int32).toNatClampNeg + ((fa 10 0) (9 * ((v52 : Int32).toInt).toNat + 3)).toInt64 := xr53_3
          have xr53_4 : n56 (1 : Int32).toNatClampNeg = w48_b_20_1 (1 : Int32).toNatClampNeg + ((fa 10 0) (9 * ((v52 : Int32).toInt).toNat + 4)).toInt64 := xr53_4
          have xr53_5 : n54 (1 : Int32).toNatClampNeg = w48_a_20_2 (1 : Int32).toNatClampNeg + 1 := xr53_5
          refine lv_aload_n hx hb dX2_takeSome_68 rfl (lv_at hl 2 rfl) ?_
          refine lv_iload_n hx hb dX2_takeSome_69 rfl (lv_at hl 3 rfl) ?_
          refine lv_iconst (v := 1) hx hb dX2_takeSome_70 (by decide) ?_
          refine lv_isub hx hb dX2_takeSome_71 ?_
          refine lv_topi (fun v57 ev57 => ?_)
          obtain rfl : 8 = v57 := (ev57.trans (by decide)).symm
          refine lv_iload hx hb dX2_takeSome_72 (lv_at hl 1 rfl) ?_
          refine lv_iconst (v := 1) hx hb dX2_takeSome_74 (by decide) ?_
          refine lv_iadd hx hb dX2_takeSome_75 ?_
          refine lv_topi (fun v58 ev58 => ?_)
          have tv58 := z_add ev58 (rfl : (x48_4).toInt = _) (by decide : (1 : Int32).toInt = 1) (by omega) (by omega)
          refine lv_iload_n hx hb dX2_takeSome_76 rfl (lv_at hl 5 rfl) ?_
          have hFc := free_all hD hS hA
          refine va_callv (va_runV (As := [.int 8, .int v58, .int n]) (rest := []) ⟨hx, hb, hml, hown, ht⟩ (c_X2_takeSome_w8 l dC dI H.size h g ca (u2 (u2 iv 2 6 w48_i_2_6) 2 7 w48_i_2_7) lv (u2 fa 20 2 n54) (u2 (u2 la 20 0 n55) 20 1 n56) (IX_a (c := 20) (k := 2) (IX_i (c := 2) (k := 7) (IX_i (c := 2) (k := 6) hI (full_i _)) (full_i _)) hn54) v58 n ⟨by omega, by omega⟩ ⟨by omega, by omega⟩) (kV 3 ht m_933 m_935 m_38 m_85 m_936 rfl rfl hd_X2_takeSome_v ⟨Nat.le_of_ble_eq_true rfl, Nat.le_of_ble_eq_true rfl⟩) (vW hP hK hD (rX_2 hK hP)) rfl rfl hl.1 rfl (lv_room (Nat.le_of_ble_eq_true rfl)) dX2_takeSome_77 ⟨Nat.le_of_ble_eq_true rfl, Nat.le_of_ble_eq_true rfl⟩) hS (fun q _ h => hFc q h) hFc (fun u t H1 locs ht9 hvm hr59 hB hz1 hk1 hS => ?_)
          obtain ⟨n60, n61, n62, n63, n64, xr59_0, xr59_1, rfl⟩ := hr59
          have hn60 : ∀ j, inb (bA 20 2 j) (n60 j) := fun j => full_i _
          obtain ⟨hP, hD⟩ := hB
          rw [ht9] at hP
          generalize H1 = H at hP hS ⊢
          have hP : va_P (dC, dI) classes (WX h g ca (u2 (u2 iv 2 6 n63) 2 7 n64) lv (u2 fa 20 2 n60) (u2 (u2 la 20 0 n61) 20 1 n62)) H := hP
          have hD : va_D A (WX h g ca (u2 (u2 iv 2 6 n63) 2 7 n64) lv (u2 fa 20 2 n60) (u2 (u2 la 20 0 n61) 20 1 n62)) := (show va_D _ (WX h g ca (u2 (u2 iv 2 6 n63) 2 7 n64) lv (u2 fa 20 2 n60) (u2 (u2 la 20 0 n61) 20 1 n62)) from hD).weaken (fun _ _ _ h => hFc _ h)
          have xr59_0 : ∀ j : Nat, j < 2 → n61 j = n55 j ∧ n62 j = n56 j := xr59_0
          have xr59_1 : ∀ (pt : Int32) (w0 f0 : Nat), pt.toInt = ((iv 2 5) : Int32).toInt → (w48_i_2_6 : Int32).toInt = (oN w0).toInt → (w48_i_2_7 : Int32).toInt = (oN f0).toInt → (n63 : Int32).toInt = (oN (w0 + nT nO (fun q : Nat => ((fa 10 0) (9 * (((fa 2 2) q).toInt).toNat + 4)).toInt64) (fun q : Nat => ((fa 10 0) (9 * (((fa 2 2) q).toInt).toNat + 3)).toInt64) (((n : Int32).toInt).toNat - ((v58 : Int32).toInt).toNat) ((v58 : Int32).toInt).toNat 8 (n56 1) (n55 1))).toInt ∧ (n64 : Int32).toInt = (oN (f0 + nT (nF (n56 0) (n55 0) pt) (fun q : Nat => ((fa 10 0) (9 * (((fa 2 2) q).toInt).toNat + 4)).toInt64) (fun q : Nat => ((fa 10 0) (9 * (((fa 2 2) q).toInt).toNat + 3)).toInt64) (((n : Int32).toInt).toNat - ((v58 : Int32).toInt).toNat) ((v58 : Int32).toInt).toNat 8 (n56 1) (n55 1))).toInt := xr59_1
          refine lv_aload_n hx hb dX2_takeSome_80 rfl (lv_at hl 2 rfl) ?_
          refine gX_2_1 hx hb ht hown hK hP m_305 dX2_takeSome_81 ?_
          refine lv_iconst (v := 1) hx hb dX2_takeSome_84 (by decide) ?_
          refine lv_aload_n hx hb dX2_takeSome_85 rfl (lv_at hl 2 rfl) ?_
          refine gX_2_0 hx hb ht hown hK hP m_304 dX2_takeSome_86 ?_
          refine lv_iload hx hb dX2_takeSome_89 (lv_at hl 0 rfl) ?_
          refine lv_iconst (v := 3) hx hb dX2_takeSome_91 (by decide) ?_
          refine vp_callSi (W.runV (As := [.int v52, .int 3]) (rest := [.int 1, .ref (g 2 1)]) ⟨hx, hb, hml, hown, ht⟩ (c_X10_get_x3 l dC dI h g ca (u2 (u2 iv 2 6 n63) 2 7 n64) lv (u2 fa 20 2 n60) (u2 (u2 la 20 0 n61) 20 1 n62) (IX_a (c := 20) (k := 2) (IX_i (c := 2) (k := 7) (IX_i (c := 2) (k := 6) hI (full_i _)) (full_i _)) hn60) v52 ⟨by omega, by omega⟩) (kV 2 ht m_889 m_486 m_487 m_78 m_488 rfl rfl hd_X10_get_v ⟨Nat.le_of_ble_eq_true rfl, Nat.le_of_ble_eq_true rfl⟩) (vR hP hK (rX_10 hK hP)) rfl rfl hl.1 rfl (lv_room (Nat.le_of_ble_eq_true rfl)) dX2_takeSome_92 ⟨Nat.le_of_ble_eq_true rfl, Nat.le_of_ble_eq_true rfl⟩) (fun r65 hr65 => ?_)
          obtain ⟨hr65, xr65_0⟩ := hr65
          have xr65_0 : (r65 : Int32).toInt = ((fa 10 0) (9 * ((v52 : Int32).toInt).toNat + 3)).toInt := xr65_0
          refine lv_aload_n hx hb dX2_takeSome_95 rfl (lv_at hl 2 rfl) ?_
          refine gX_2_0 hx hb ht hown hK hP m_304 dX2_takeSome_96 ?_
          refine lv_iload hx hb dX2_takeSome_99 (lv_at hl 0 rfl) ?_
          refine lv_iconst (v := 4) hx hb dX2_takeSome_101 (by decide) ?_
          refine vp_callSi (W.runV (As := [.int v52, .int 4]) (rest := [.int r65, .int 1, .ref (g 2 1)]) ⟨hx, hb, hml, hown, ht⟩ (c_X10_get_x4 l dC dI h g ca (u2 (u2 iv 2 6 n63) 2 7 n64) lv (u2 fa 20 2 n60) (u2 (u2 la 20 0 n61) 20 1 n62) (IX_a (c := 20) (k := 2) (IX_i (c := 2) (k := 7) (IX_i (c := 2) (k := 6) hI (full_i _)) (full_i _)) hn60) v52 ⟨by omega, by omega⟩) (kV 2 ht m_889 m_486 m_487 m_78 m_488 rfl rfl hd_X10_get_v ⟨Nat.le_of_ble_eq_true rfl, Nat.le_of_ble_eq_true rfl⟩) (vR hP hK (rX_10 hK hP)) rfl rfl hl.1 rfl (lv_room (Nat.le_of_ble_eq_true rfl)) dX2_takeSome_102 ⟨Nat.le_of_ble_eq_true rfl, Nat.le_of_ble_eq_true rfl⟩) (fun r66 hr66 => ?_)
          obtain ⟨hr66, xr66_0⟩ := hr66
          have xr66_0 : (r66 : Int32).toInt = ((fa 10 0) (9 * ((v52 : Int32).toInt).toNat + 4)).toInt := xr66_0
          have hFc := free_all hD hS hA
          refine va_callv (va_runV (As := [.int 1, .int r65, .int r66]) (rest := []) ⟨hx, hb, hml, hown, ht⟩ (c_X7_remove_s20 l dC dI H.size h g ca (u2 (u2 iv 2 6 n63) 2 7 n64) lv (u2 fa 20 2 n60) (u2 (u2 la 20 0 n61) 20 1 n62) (IX_a (c := 20) (k := 2) (IX_i (c := 2) (k := 7) (IX_i (c := 2) (k := 6) hI (full_i _)) (full_i _)) hn60) 1 r65 r66 ⟨by decide, by decide⟩) (kV 3 ht m_937 m_938 m_939 m_84 m_940 rfl rfl hd_X7_remove_v ⟨Nat.le_of_ble_eq_true rfl, Nat.le_of_ble_eq_true rfl⟩) (vW hP hK hD (rX_20 hK hP)) rfl rfl hl.1 rfl (lv_room (Nat.le_of_ble_eq_true rfl)) dX2_takeSome_105 ⟨Nat.le_of_ble_eq_true rfl, Nat.le_of_ble_eq_true rfl⟩) hS (fun q _ h => hFc q h) hFc (fun u t H1 locs ht9 hvm hr67 hB hz1 hk1 hS => ?_)
          obtain ⟨n68, n69, n70, xr67_0, xr67_1, xr67_2, xr67_3, rfl⟩ := hr67
          have hn68 : ∀ j, inb (bA 20 2 j) (n68 j) := fun j => full_i _
          obtain ⟨hP, hD⟩ := hB
          rw [ht9] at hP
          generalize H1 = H at hP hS ⊢
          have hP : va_P (dC, dI) classes (WX h g ca (u2 (u2 iv 2 6 n63) 2 7 n64) lv (u2 fa 20 2 n68) (u2 (u2 la 20 0 n69) 20 1 n70)) H := hP
          have hD : va_D A (WX h g ca (u2 (u2 iv 2 6 n63) 2 7 n64) lv (u2 fa 20 2 n68) (u2 (u2 la 20 0 n69) 20 1 n70)) := (show va_D _ (WX h g ca (u2 (u2 iv 2 6 n63) 2 7 n64) lv (u2 fa 20 2 n68) (u2 (u2 la 20 0 n69) 20 1 n70)) from hD).weaken (fun _ _ _ h => hFc _ h)
          have xr67_0 : ∀ j : Nat, j ≠ (1 : Int32).toNatClampNeg → n69 j = n61 j := xr67_0
          have xr67_1 : ∀ j : Nat, j ≠ (1 : Int32).toNatClampNeg → n70 j = n62 j := xr67_1
          have xr67_2 : n69 (1 : Int32).toNatClampNeg = n61 (1 : Int32).toNatClampNeg - ((r65 : Int32)).toInt64 := xr67_2
          have xr67_3 : n70 (1 : Int32).toNatClampNeg = n62 (1 : Int32).toNatClampNeg - ((r66 : Int32)).toInt64 := xr67_3
          obtain ⟨v71, ev71⟩ : ∃ y : Int32, y = x48_4 + 1 := ⟨_, rfl⟩
          have tv71 := z_add ev71 rfl (by decide : (1 : Int32).toInt = 1) (by omega) (by omega)
          refine lv_iinc (v := v71) (lv' := [(4, .int v71), (5, .int v52), (0, .ref (g 11 6)), (1, .int 9), (2, .int k), (3, .int n)]) hx hb dX2_takeSome_108 hl (k := 1) rfl (by rw [ev71]; rfl) (by decide) rfl (fun ls hl => ?_)
          refine lv_goto (tgt := 44) hx hb dX2_takeSome_111 (by decide) ?_
          exact ih49 v71 n63 n64 n68 n69 n70 ⟨by omega, by omega⟩ hn68 (show ∀ j : Nat, j < 2 → n69 j = (la 20 0) j ∧ n70 j = (la 20 1) j from (fun j hj => by
                have z11 : (1 : Int32).toNatClampNeg = 1 := (by decide)
                have z10 : (0 : Nat) ≠ (1 : Int32).toNatClampNeg := (by decide)
                have hv9 : (v52 : Int32) = fa 2 2 ((x48_4 : Int32).toInt).toNat := ev52
                have p3 := xr53_3
                have p4 := xr53_4
                rw [z11] at p3 p4
                have k0 := hq49_0 0 (by decide)
                have k1 := hq49_0 1 (by decide)
                have hB : n55 1 = (la 20 0 1) + (fun q : Nat => ((fa 10 0) (9 * (((fa 2 2) q).toInt).toNat + 3)).toInt64) ((x48_4 : Int32).toInt).toNat := by rw [p3, k1.1, hv9]
                have hA : n56 1 = (la 20 1 1) + (fun q : Nat => ((fa 10 0) (9 * (((fa 2 2) q).toInt).toNat + 4)).toInt64) ((x48_4 : Int32).toInt).toNat := by rw [p4, k1.2, hv9]
                have hR : n55 0 = (la 20 0 0) := by rw [xr53_0 0 z10]; exact k0.1
                have hD : n56 0 = (la 20 1 0) := by rw [xr53_1 0 z10]; exact k0.2
                have hr3 : (r65 : Int32) = fa 10 0 (9 * ((v52 : Int32).toInt).toNat + 3) := Int32.toInt_inj.mp xr65_0
                have hr4 : (r66 : Int32) = fa 10 0 (9 * ((v52 : Int32).toInt).toNat + 4) := Int32.toInt_inj.mp xr66_0
                have m2 := xr67_2
                have m3 := xr67_3
                rw [z11] at m2 m3
                rcases (by omega : j = 0 ∨ j = 1) with rfl | rfl
                · rw [xr67_0 0 z10, xr67_1 0 z10, (xr59_0 0 (by decide)).1, (xr59_0 0 (by decide)).2, hR, hD]
                  exact ⟨rfl, rfl⟩
                · rw [m2, m3, (xr59_0 1 (by decide)).1, (xr59_0 1 (by decide)).2, p3, p4, hr3, hr4, Int64.add_sub_cancel, Int64.add_sub_cancel]
                  exact k1)) (show ∀ (pt : Int32) (w0 f0 : Nat), pt.toInt = (iv 2 5).toInt → (iv 2 6).toInt = (oN w0).toInt → (iv 2 7).toInt = (oN f0).toInt → ∃ u v : Nat, (n63 : Int32).toInt = (oN u).toInt ∧ (n64 : Int32).toInt = (oN v).toInt ∧ u + nT nO (fun q : Nat => ((fa 10 0) (9 * (((fa 2 2) q).toInt).toNat + 4)).toInt64) (fun q : Nat => ((fa 10 0) (9 * (((fa 2 2) q).toInt).toNat + 3)).toInt64) (((n).toInt).toNat - ((v71 : Int32).toInt).toNat) ((v71 : Int32).toInt).toNat 9 (la 20 1 1) (la 20 0 1) = w0 + nT nO (fun q : Nat => ((fa 10 0) (9 * (((fa 2 2) q).toInt).toNat + 4)).toInt64) (fun q : Nat => ((fa 10 0) (9 * (((fa 2 2) q).toInt).toNat + 3)).toInt64) (((n).toInt).toNat - ((k).toInt).toNat) ((k).toInt).toNat 9 (la 20 1 1) (la 20 0 1) ∧ v + nT (nF (la 20 1 0) (la 20 0 0) pt) (fun q : Nat => ((fa 10 0) (9 * (((fa 2 2) q).toInt).toNat + 4)).toInt64) (fun q : Nat => ((fa 10 0) (9 * (((fa 2 2) q).toInt).toNat + 3)).toInt64) (((n).toInt).toNat - ((v71 : Int32).toInt).toNat) ((v71 : Int32).toInt).toNat 9 (la 20 1 1) (la 20 0 1) = f0 + nT (nF (la 20 1 0) (la 20 0 0) pt) (fun q : Nat => ((fa 10 0) (9 * (((fa 2 2) q).toInt).toNat + 4)).toInt64) (fun q : Nat => ((fa 10 0) (9 * (((fa 2 2) q).toInt).toNat + 3)).toInt64) (((n).toInt).toNat - ((k).toInt).toNat) ((k).toInt).toNat 9 (la 20 1 1) (la 20 0 1) from (fun pt w0 f0 hpt h1 h2 => by
                have z11 : (1 : Int32).toNatClampNeg = 1 := (by decide)
                have z10 : (0 : Nat) ≠ (1 : Int32).toNatClampNeg := (by decide)
                have hv9 : (v52 : Int32) = fa 2 2 ((x48_4 : Int32).toInt).toNat := ev52
                have p3 := xr53_3
                have p4 := xr53_4
                rw [z11] at p3 p4
                have k0 := hq49_0 0 (by decide)
                have k1 := hq49_0 1 (by decide)
                have hB : n55 1 = (la 20 0 1) + (fun q : Nat => ((fa 10 0) (9 * (((fa 2 2) q).toInt).toNat + 3)).toInt64) ((x48_4 : Int32).toInt).toNat := by rw [p3, k1.1, hv9]
                have hA : n56 1 = (la 20 1 1) + (fun q : Nat => ((fa 10 0) (9 * (((fa 2 2) q).toInt).toNat + 4)).toInt64) ((x48_4 : Int32).toInt).toNat := by rw [p4, k1.2, hv9]
                have hR : n55 0 = (la 20 0 0) := by rw [xr53_0 0 z10]; exact k0.1
                have hD : n56 0 = (la 20 1 0) := by rw [xr53_1 0 z10]; exact k0.2
                obtain ⟨u, v, hw, hf, q1, q2⟩ := hq49_1 pt w0 f0 hpt h1 h2
                have hs9 : ((v71 : Int32).toInt).toNat = ((x48_4 : Int32).toInt).toNat + 1 := by omega
                have hk9 : ((v58 : Int32).toInt).toNat = ((x48_4 : Int32).toInt).toNat + 1 := by omega
                have hc9 := xr59_1 pt u v hpt hw hf
                rw [hA, hB, hD, hR, hk9] at hc9
                have hr9 : (n.toInt).toNat - ((x48_4 : Int32).toInt).toNat = (n.toInt).toNat - (((x48_4 : Int32).toInt).toNat + 1) + 1 := by omega
                have y1 := Tk_st (m' := 8) hr9 rfl q1
                have y2 := Tk_st (m' := 8) hr9 rfl q2
                rw [hs9]
                exact ⟨_, _, hc9.1, hc9.2, y1, y2⟩)) (by omega) _ _ ls hP hD hS (lv_sub hl [0, 2, 3, 4, 5] rfl)
    exact lp49 13 k (iv 2 6) (iv 2 7) (fa 20 2) (la 20 0) (la 20 1) ⟨by omega, by omega⟩ (hI.2 20 2) (show ∀ j : Nat, j < 2 → (la 20 0) j = (la 20 0) j ∧ (la 20 1) j = (la 20 1) j from (fun j hj => ⟨rfl, rfl⟩)) (show ∀ (pt : Int32) (w0 f0 : Nat), pt.toInt = (iv 2 5).toInt → (iv 2 6).toInt = (oN w0).toInt → (iv 2 7).toInt = (oN f0).toInt → ∃ u v : Nat, ((iv 2 6) : Int32).toInt = (oN u).toInt ∧ ((iv 2 7) : Int32).toInt = (oN v).toInt ∧ u + nT nO (fun q : Nat => ((fa 10 0) (9 * (((fa 2 2) q).toInt).toNat + 4)).toInt64) (fun q : Nat => ((fa 10 0) (9 * (((fa 2 2) q).toInt).toNat + 3)).toInt64) (((n).toInt).toNat - ((k : Int32).toInt).toNat) ((k : Int32).toInt).toNat 9 (la 20 1 1) (la 20 0 1) = w0 + nT nO (fun q : Nat => ((fa 10 0) (9 * (((fa 2 2) q).toInt).toNat + 4)).toInt64) (fun q : Nat => ((fa 10 0) (9 * (((fa 2 2) q).toInt).toNat + 3)).toInt64) (((n).toInt).toNat - ((k).toInt).toNat) ((k).toInt).toNat 9 (la 20 1 1) (la 20 0 1) ∧ v + nT (nF (la 20 1 0) (la 20 0 0) pt) (fun q : Nat => ((fa 10 0) (9 * (((fa 2 2) q).toInt).toNat + 4)).toInt64) (fun q : Nat => ((fa 10 0) (9 * (((fa 2 2) q).toInt).toNat + 3)).toInt64) (((n).toInt).toNat - ((k : Int32).toInt).toNat) ((k : Int32).toInt).toNat 9 (la 20 1 1) (la 20 0 1) = f0 + nT (nF (la 20 1 0) (la 20 0 0) pt) (fun q : Nat => ((fa 10 0) (9 * (((fa 2 2) q).toInt).toNat + 4)).toInt64) (fun q : Nat => ((fa 10 0) (9 * (((fa 2 2) q).toInt).toNat + 3)).toInt64) (((n).toInt).toNat - ((k).toInt).toNat) ((k).toInt).toNat 9 (la 20 1 1) (la 20 0 1) from (fun pt w0 f0 hpt h1 h2 => ⟨w0, f0, h1, h2, rfl, rfl⟩)) (by first | decide | omega) _ _ ls hP hD hS (lv_sub hl [0, 1, 2, 3, 4] rfl)
  · exact absurd c1 (by decide)
set_option maxHeartbeats 4000000 in
set_option maxRecDepth 100000 in
/-- X2_takeSome -/
theorem c_X2_takeSome_w10 (l : Launch) (dC : Nat → ClassId) (dI : Nat → Nat → Nat) (sz : Nat) (h : Nat) (g : Nat → Nat → Nat) (ca : Nat → Nat → ClassId) (iv : Nat → Nat → Int32) (lv : Nat → Nat → Int64) (fa : Nat → Nat → Nat → Int32) (la : Nat → Nat → Nat → Int64) (hI : IX iv fa) (k : Int32) (n : Int32) (h_k : 0 ≤ k.toInt ∧ k.toInt ≤ 12) (h_n : 0 ≤ n.toInt ∧ n.toInt ≤ 12) : Met l yX2_takeSome (wc yX2_takeSome cX2_takeSome 6 none) ({ frames := 12, cells := 0, slots := 0, locals := 313 } : Room) (pW (dC, dI) classes (WX h g ca iv lv fa la) (TX ca) sz [.ref (g 11 6), .int 10, .int k, .int n]) (va_Qv (fun (u : SS) => ∃ (na_20_2 : Nat → Int32) (nb_20_0 : Nat → Int64) (nb_20_1 : Nat → Int64) (ni_2_6 : Int32) (ni_2_7 : Int32), (∀ j : Nat, j < 2 → nb_20_0 j = (la 20 0) j ∧ nb_20_1 j = (la 20 1) j) ∧ (∀ (pt : Int32) (w0 f0 : Nat), pt.toInt = (iv 2 5).toInt → (iv 2 6).toInt = (oN w0).toInt → (iv 2 7).toInt = (oN f0).toInt → (ni_2_6).toInt = (oN (w0 + nT nO (fun q : Nat => ((fa 10 0) (9 * (((fa 2 2) q).toInt).toNat + 4)).toInt64) (fun q : Nat => ((fa 10 0) (9 * (((fa 2 2) q).toInt).toNat + 3)).toInt64) ((n.toInt).toNat - (k.toInt).toNat) (k.toInt).toNat 10 ((la 20 1) 1) ((la 20 0) 1))).toInt ∧ (ni_2_7).toInt = (oN (f0 + nT (nF ((la 20 1) 0) ((la 20 0) 0) pt) (fun q : Nat => ((fa 10 0) (9 * (((fa 2 2) q).toInt).toNat + 4)).toInt64) (fun q : Nat => ((fa 10 0) (9 * (((fa 2 2) q).toInt).toNat + 3)).toInt64) ((n.toInt).toNat - (k.toInt).toNat) (k.toInt).toNat 10 ((la 20 1) 1) ((la 20 0) 1))).toInt) ∧ u = ((u2 (u2 iv 2 6 ni_2_6) 2 7 ni_2_7), lv, (u2 fa 20 2 na_20_2), (u2 (u2 la 20 0 nb_20_0) 20 1 nb_20_1))) (bX (dC, dI) h g ca (va_A (WX h g ca iv lv fa la) sz)) (va_A (WX h g ca iv lv fa la) sz)) 0 0 (va_A (WX h g ca iv lv fa la) sz) := by
  refine Met.ofW (cc := cX2_takeSome) (maxL := 6) (ret := none) (by decide) rfl ?_
  intro p e s m args below meth c s₁ B hml hv
  obtain ⟨rfl, hsz, hP, hK, hD0⟩ := hv
  have hx := B.exec
  have hb := B.bytes
  have hr := B.returns
  have ht := tb_tl (atoms_spec (ws := wc yX2_takeSome cX2_takeSome 6 none) B.pre)
  have hown : s.vm.findClass RX2 = some m.cls := findClass_of_methodNamed B.named
  have hlocks := B.notSynchronized
  subst hsz
  have hD := hD0.self (sz := s.heap.size)
  generalize hAe : va_A (WX h g ca iv lv fa la) s.heap.size = A at hD ⊢
  have hA : ∀ q : Nat, s.heap.size ≤ q → A q := fun q h => by rw [← hAe]; exact Or.inr h
  have hS : va_S A s.heap s.heap [] := va_S.rf
  have hl := lv_entry [.ref (g 11 6), .int 10, .int k, .int n] (n := 6) (Nat.le_of_ble_eq_true rfl)
  rw [lg_entry_eq]
  generalize (lg_sl [.ref (g 11 6), .int 10, .int k, .int n] ++ List.replicate (6 - (lg_sl [.ref (g 11 6), .int 10, .int k, .int n]).length) Slot.unset).toArray = ls at hl ⊢
  have hl : lv_has ls 6 [(0, .ref (g 11 6)), (1, .int 10), (2, .int k), (3, .int n)] := hl
  refine lv_iload_n hx hb dX2_takeSome_0 rfl (lv_at hl 1 rfl) ?_
  refine lv_if_gt (tgt := 41) hx hb dX2_takeSome_1 (by decide) (fun c1 => ?_) (fun c1 => ?_)
  · skip
    refine lv_iload_n hx hb dX2_takeSome_41 rfl (lv_at hl 2 rfl) ?_
    refine lv_istore (lv' := [(4, .int k), (0, .ref (g 11 6)), (1, .int 10), (2, .int k), (3, .int n)]) hx hb dX2_takeSome_42 hl (by decide) rfl (fun ls hl => ?_)
    have lp49 : ∀ (nn49 : Nat) (x48_4 : Int32) (w48_i_2_6 : Int32) (w48_i_2_7 : Int32) (w48_a_20_2 : Nat → Int32) (w48_b_20_0 : Nat → Int64) (w48_b_20_1 : Nat → Int64), 0 ≤ x48_4.toInt ∧ x48_4.toInt ≤ 12 → (∀ j, inb (bA 20 2 j) (w48_a_20_2 j)) → (∀ j : Nat, j < 2 → w48_b_20_0 j = (la 20 0) j ∧ w48_b_20_1 j = (la 20 1) j) → (∀ (pt : Int32) (w0 f0 : Nat), pt.toInt = (iv 2 5).toInt → (iv 2 6).toInt = (oN w0).toInt → (iv 2 7).toInt = (oN f0).toInt → ∃ u v : Nat, (w48_i_2_6 : Int32).toInt = (oN u).toInt ∧ (w48_i_2_7 : Int32).toInt = (oN v).toInt ∧ u + nT nO (fun q : Nat => ((fa 10 0) (9 * (((fa 2 2) q).toInt).toNat + 4)).toInt64) (fun q : Nat => ((fa 10 0) (9 * (((fa 2 2) q).toInt).toNat + 3)).toInt64) (((n).toInt).toNat - ((x48_4 : Int32).toInt).toNat) ((x48_4 : Int32).toInt).toNat 10 (la 20 1 1) (la 20 0 1) = w0 + nT nO (fun q : Nat => ((fa 10 0) (9 * (((fa 2 2) q).toInt).toNat + 4)).toInt64) (fun q : Nat => ((fa 10 0) (9 * (((fa 2 2) q).toInt).toNat + 3)).toInt64) (((n).toInt).toNat - ((k).toInt).toNat) ((k).toInt).toNat 10 (la 20 1 1) (la 20 0 1) ∧ v + nT (nF (la 20 1 0) (la 20 0 0) pt) (fun q : Nat => ((fa 10 0) (9 * (((fa 2 2) q).toInt).toNat + 4)).toInt64) (fun q : Nat => ((fa 10 0) (9 * (((fa 2 2) q).toInt).toNat + 3)).toInt64) (((n).toInt).toNat - ((x48_4 : Int32).toInt).toNat) ((x48_4 : Int32).toInt).toNat 10 (la 20 1 1) (la 20 0 1) = f0 + nT (nF (la 20 1 0) (la 20 0 0) pt) (fun q : Nat => ((fa 10 0) (9 * (((fa 2 2) q).toInt).toNat + 4)).toInt64) (fun q : Nat => ((fa 10 0) (9 * (((fa 2 2) q).toInt).toNat + 3)).toInt64) (((n).toInt).toNat - ((k).toInt).toNat) ((k).toInt).toNat 10 (la 20 1 1) (la 20 0 1)) → 12 - x48_4.toInt < (nn49 : Int) → ∀ (H : Heap) (locs : List Loc), ∀ (ls : Array Slot), va_P (dC, dI) classes (WX h g ca (u2 (u2 iv 2 6 w48_i_2_6) 2 7 w48_i_2_7) lv (u2 fa 20 2 w48_a_20_2) (u2 (u2 la 20 0 w48_b_20_0) 20 1 w48_b_20_1)) H → va_D A (WX h g ca (u2 (u2 iv 2 6 w48_i_2_6) 2 7 w48_i_2_7) lv (u2 fa 20 2 w48_a_20_2) (u2 (u2 la 20 0 w48_b_20_0) 20 1 w48_b_20_1)) → va_S A s.heap H locs → lv_has ls 6 [(4, .int x48_4), (0, .ref (g 11 6)), (1, .int 10), (2, .int k), (3, .int n)] → W p l e ({ frames := 12, cells := 0, slots := 0, locals := 313 } : Room) s m ([.ref (g 11 6), .int 10, .int k, .int n] : List Value).toArray below meth c H locs 0 0 (MQ below (va_Qv (fun (u : SS) => ∃ (na_20_2 : Nat → Int32) (nb_20_0 : Nat → Int64) (nb_20_1 : Nat → Int64) (ni_2_6 : Int32) (ni_2_7 : Int32), (∀ j : Nat, j < 2 → nb_20_0 j = (la 20 0) j ∧ nb_20_1 j = (la 20 1) j) ∧ (∀ (pt : Int32) (w0 f0 : Nat), pt.toInt = (iv 2 5).toInt → (iv 2 6).toInt = (oN w0).toInt → (iv 2 7).toInt = (oN f0).toInt → (ni_2_6).toInt = (oN (w0 + nT nO (fun q : Nat => ((fa 10 0) (9 * (((fa 2 2) q).toInt).toNat + 4)).toInt64) (fun q : Nat => ((fa 10 0) (9 * (((fa 2 2) q).toInt).toNat + 3)).toInt64) ((n.toInt).toNat - (k.toInt).toNat) (k.toInt).toNat 10 ((la 20 1) 1) ((la 20 0) 1))).toInt ∧ (ni_2_7).toInt = (oN (f0 + nT (nF ((la 20 1) 0) ((la 20 0) 0) pt) (fun q : Nat => ((fa 10 0) (9 * (((fa 2 2) q).toInt).toNat + 4)).toInt64) (fun q : Nat => ((fa 10 0) (9 * (((fa 2 2) q).toInt).toNat + 3)).toInt64) ((n.toInt).toNat - (k.toInt).toNat) (k.toInt).toNat 10 ((la 20 1) 1) ((la 20 0) 1))).toInt) ∧ u = ((u2 (u2 iv 2 6 ni_2_6) 2 7 ni_2_7), lv, (u2 fa 20 2 na_20_2), (u2 (u2 la 20 0 nb_20_0) 20 1 nb_20_1))) (bX (dC, dI) h g ca A) A) ([.ref (g 11 6), .int 10, .int k, .int n] : List Value).toArray s 0 0 A) (F0 m 44 ls []) := by
      intro nn49
      induction nn49 with
      | zero => intro x48_4 w48_i_2_6 w48_i_2_7 w48_a_20_2 w48_b_20_0 w48_b_20_1 hx48_4 hw48_a_20_2 hq49_0 hq49_1 hm49; exfalso; omega
      | succ nn49 ih49 =>
        intro x48_4 w48_i_2_6 w48_i_2_7 w48_a_20_2 w48_b_20_0 w48_b_20_1 hx48_4 hw48_a_20_2 hq49_0 hq49_1 hm49 H locs ls hP hD hS hl
        refine lv_iload hx hb dX2_takeSome_44 (lv_at hl 0 rfl) ?_
        refine lv_iload_n hx hb dX2_takeSome_46 rfl (lv_at hl 4 rfl) ?_
        refine lv_iload_n hx hb dX2_takeSome_47 rfl (lv_at hl 2 rfl) ?_
        refine lv_isub hx hb dX2_takeSome_48 ?_
        refine lv_topi (fun v50 ev50 => ?_)
        have tv50 := z_sub ev50 (rfl : (n).toInt = _) (by decide : (10 : Int32).toInt = 10) (by omega) (by omega)
        refine lv_icmp_gt (tgt := 114) hx hb dX2_takeSome_49 (by decide) (fun c51 => ?_) (fun c51 => ?_)
        · have fc51 := z_lt (rfl : (v50).toInt = _) (rfl : (x48_4).toInt = _) c51
          have hP9 : va_P (dC, dI) classes (WX h g ca (u2 (u2 iv 2 6 w48_i_2_6) 2 7 w48_i_2_7) lv (u2 fa 20 2 w48_a_20_2) (u2 (u2 la 20 0 w48_b_20_0) 20 1 w48_b_20_1)) H := hP
          have hD9 : va_D A (WX h g ca (u2 (u2 iv 2 6 w48_i_2_6) 2 7 w48_i_2_7) lv (u2 fa 20 2 w48_a_20_2) (u2 (u2 la 20 0 w48_b_20_0) 20 1 w48_b_20_1)) := hD
          exact W.vret hx hb hr (fun t ht9 hW => ⟨⟨((u2 (u2 iv 2 6 w48_i_2_6) 2 7 w48_i_2_7), lv, (u2 fa 20 2 w48_a_20_2), (u2 (u2 la 20 0 w48_b_20_0) 20 1 w48_b_20_1)), rfl, ⟨w48_a_20_2, w48_b_20_0, w48_b_20_1, w48_i_2_6, w48_i_2_7, (show ∀ j : Nat, j < 2 → w48_b_20_0 j = (la 20 0) j ∧ w48_b_20_1 j = (la 20 1) j from hq49_0), (show ∀ (pt : Int32) (w0 f0 : Nat), pt.toInt = (iv 2 5).toInt → (iv 2 6).toInt = (oN w0).toInt → (iv 2 7).toInt = (oN f0).toInt → (w48_i_2_6 : Int32).toInt = (oN (w0 + nT nO (fun q : Nat => ((fa 10 0) (9 * (((fa 2 2) q).toInt).toNat + 4)).toInt64) (fun q : Nat => ((fa 10 0) (9 * (((fa 2 2) q).toInt).toNat + 3)).toInt64) (((n).toInt).toNat - ((k).toInt).toNat) ((k).toInt).toNat 10 ((la 20 1) 1) ((la 20 0) 1))).toInt ∧ (w48_i_2_7 : Int32).toInt = (oN (f0 + nT (nF ((la 20 1) 0) ((la 20 0) 0) pt) (fun q : Nat => ((fa 10 0) (9 * (((fa 2 2) q).toInt).toNat + 4)).toInt64) (fun q : Nat => ((fa 10 0) (9 * (((fa 2 2) q).toInt).toNat + 3)).toInt64) (((n).toInt).toNat - ((k).toInt).toNat) ((k).toInt).toNat 10 ((la 20 1) 1) ((la 20 0) 1))).toInt from (fun pt w0 f0 hpt h1 h2 => by
                obtain ⟨u, v, hw, hf, q1, q2⟩ := hq49_1 pt w0 f0 hpt h1 h2
                rw [nT_0 ((n.toInt).toNat - ((x48_4 : Int32).toInt).toNat) ((x48_4 : Int32).toInt).toNat 10 (la 20 1 1) (la 20 0 1) (by omega)] at q1 q2
                rw [← q1, ← q2]
                exact ⟨hw, hf⟩)), rfl⟩, by rw [ht9]; exact hP9, hD9⟩, hS.F ht9⟩) hS.2.2 dX2_takeSome_114
        · have fc51 := z_nlt (rfl : (v50).toInt = _) (rfl : (x48_4).toInt = _) c51
          refine lv_aload_n hx hb dX2_takeSome_52 rfl (lv_at hl 1 rfl) ?_
          refine gX_2_2 hx hb ht hown hK hP m_306 dX2_takeSome_53 ?_
          refine lv_iload hx hb dX2_takeSome_56 (lv_at hl 0 rfl) ?_
          refine lX_2_2 hx hb hK hP (f := (fa 2 2)) rfl (vp_in_iff.mpr ⟨by omega, by omega⟩) dX2_takeSome_58 ?_
          refine lv_topi (fun v52 ev52 => ?_)
          have tv52 : 0 ≤ v52.toInt ∧ v52.toInt ≤ 59 := by rw [ev52]; exact hI.2 2 2 _
          refine lv_istore (lv' := [(5, .int v52), (4, .int x48_4), (0, .ref (g 11 6)), (1, .int 10), (2, .int k), (3, .int n)]) hx hb dX2_takeSome_59 hl (by decide) rfl (fun ls hl => ?_)
          refine lv_aload_n hx hb dX2_takeSome_61 rfl (lv_at hl 2 rfl) ?_
          refine lv_iconst (v := 1) hx hb dX2_takeSome_62 (by decide) ?_
          refine lv_iload hx hb dX2_takeSome_63 (lv_at hl 0 rfl) ?_
          have hFc := free_all hD hS hA
          refine va_callv (va_runV (As := [.int 1, .int v52]) (rest := []) ⟨hx, hb, hml, hown, ht⟩ (c_X2_heap_w l dC dI H.size h g ca (u2 (u2 iv 2 6 w48_i_2_6) 2 7 w48_i_2_7) lv (u2 fa 20 2 w48_a_20_2) (u2 (u2 la 20 0 w48_b_20_0) 20 1 w48_b_20_1) (IX_a (c := 20) (k := 2) (IX_i (c := 2) (k := 7) (IX_i (c := 2) (k := 6) hI (full_i _)) (full_i _)) hw48_a_20_2) 1 v52 ⟨by decide, by decide⟩ ⟨by omega, by omega⟩) (kV 2 ht m_890 m_892 m_33 m_85 m_893 rfl rfl hd_X2_heap_v ⟨Nat.le_of_ble_eq_true rfl, Nat.le_of_ble_eq_true rfl⟩) (vW hP hK hD (rX_2 hK hP)) rfl rfl hl.1 rfl (lv_room (Nat.le_of_ble_eq_true rfl)) dX2_takeSome_65 ⟨Nat.le_of_ble_eq_true rfl, Nat.le_of_ble_eq_true rfl⟩) hS (fun q _ h => hFc q h) hFc (fun u t H1 locs ht9 hvm hr53 hB hz1 hk1 hS => ?_)
          obtain ⟨n54, n55, n56, xr53_0, xr53_1, xr53_2, xr53_3, xr53_4, xr53_5, rfl⟩ := hr53
          have hn54 : ∀ j, inb (bA 20 2 j) (n54 j) := fun j => full_i _
          obtain ⟨hP, hD⟩ := hB
          rw [ht9] at hP
          generalize H1 = H at hP hS ⊢
          have hP : va_P (dC, dI) classes (WX h g ca (u2 (u2 iv 2 6 w48_i_2_6) 2 7 w48_i_2_7) lv (u2 fa 20 2 n54) (u2 (u2 la 20 0 n55) 20 1 n56)) H := hP
          have hD : va_D A (WX h g ca (u2 (u2 iv 2 6 w48_i_2_6) 2 7 w48_i_2_7) lv (u2 fa 20 2 n54) (u2 (u2 la 20 0 n55) 20 1 n56)) := (show va_D _ (WX h g ca (u2 (u2 iv 2 6 w48_i_2_6) 2 7 w48_i_2_7) lv (u2 fa 20 2 n54) (u2 (u2 la 20 0 n55) 20 1 n56)) from hD).weaken (fun _ _ _ h => hFc _ h)
          have xr53_0 : ∀ j : Nat, j ≠ (1 : Int32).toNatClampNeg → n55 j = w48_b_20_0 j := xr53_0
          have xr53_1 : ∀ j : Nat, j ≠ (1 : Int32).toNatClampNeg → n56 j = w48_b_20_1 j := xr53_1
          have xr53_2 : ∀ j : Nat, j ≠ (1 : Int32).toNatClampNeg → n54 j = w48_a_20_2 j := xr53_2
          have xr53_3 : n55 (1 : Int32).toNatClampNeg = w48_b_20_0 (1 : Int32).toNatClampNeg + ((fa 10 0) (9 * ((v52 : Int32).toInt).toNat + 3)).toInt64 := xr53_3
          have xr53_4 : n56 (1 : Int32).toNatClampNeg = w48_b_20_1 (1 : Int32).toNatClampNeg + ((fa 10 0) (9 * ((v52 : Int32).toInt).toNat + 4)).toInt64 := xr53_4
          have xr53_5 : n54 (1 : Int32).toNatClampNeg = w48_a_20_2 (1 : Int32).toNatClampNeg + 1 := xr53_5
          refine lv_aload_n hx hb dX2_takeSome_68 rfl (lv_at hl 2 rfl) ?_
          refine lv_iload_n hx hb dX2_takeSome_69 rfl (lv_at hl 3 rfl) ?_
          refine lv_iconst (v := 1) hx hb dX2_takeSome_70 (by decide) ?_
          refine lv_isub hx hb dX2_takeSome_71 ?_
          refine lv_topi (fun v57 ev57 => ?_)
          obtain rfl : 9 = v57 := (ev57.trans (by decide)).symm
          refine lv_iload hx hb dX2_takeSome_72 (lv_at hl 1 rfl) ?_
          refine lv_iconst (v := 1) hx hb dX2_takeSome_74 (by decide) ?_
          refine lv_iadd hx hb dX2_takeSome_75 ?_
          refine lv_topi (fun v58 ev58 => ?_)
          have tv58 := z_add ev58 (rfl : (x48_4).toInt = _) (by decide : (1 : Int32).toInt = 1) (by omega) (by omega)
          refine lv_iload_n hx hb dX2_takeSome_76 rfl (lv_at hl 5 rfl) ?_
          have hFc := free_all hD hS hA
          refine va_callv (va_runV (As := [.int 9, .int v58, .int n]) (rest := []) ⟨hx, hb, hml, hown, ht⟩ (c_X2_takeSome_w9 l dC dI H.size h g ca (u2 (u2 iv 2 6 w48_i_2_6) 2 7 w48_i_2_7) lv (u2 fa 20 2 n54) (u2 (u2 la 20 0 n55) 20 1 n56) (IX_a (c := 20) (k := 2) (IX_i (c := 2) (k := 7) (IX_i (c := 2) (k := 6) hI (full_i _)) (full_i _)) hn54) v58 n ⟨by omega, by omega⟩ ⟨by omega, by omega⟩) (kV 3 ht m_933 m_935 m_38 m_85 m_936 rfl rfl hd_X2_takeSome_v ⟨Nat.le_of_ble_eq_true rfl, Nat.le_of_ble_eq_true rfl⟩) (vW hP hK hD (rX_2 hK hP)) rfl rfl hl.1 rfl (lv_room (Nat.le_of_ble_eq_true rfl)) dX2_takeSome_77 ⟨Nat.le_of_ble_eq_true rfl, Nat.le_of_ble_eq_true rfl⟩) hS (fun q _ h => hFc q h) hFc (fun u t H1 locs ht9 hvm hr59 hB hz1 hk1 hS => ?_)
          obtain ⟨n60, n61, n62, n63, n64, xr59_0, xr59_1, rfl⟩ := hr59
          have hn60 : ∀ j, inb (bA 20 2 j) (n60 j) := fun j => full_i _
          obtain ⟨hP, hD⟩ := hB
          rw [ht9] at hP
          generalize H1 = H at hP hS ⊢
          have hP : va_P (dC, dI) classes (WX h g ca (u2 (u2 iv 2 6 n63) 2 7 n64) lv (u2 fa 20 2 n60) (u2 (u2 la 20 0 n61) 20 1 n62)) H := hP
          have hD : va_D A (WX h g ca (u2 (u2 iv 2 6 n63) 2 7 n64) lv (u2 fa 20 2 n60) (u2 (u2 la 20 0 n61) 20 1 n62)) := (show va_D _ (WX h g ca (u2 (u2 iv 2 6 n63) 2 7 n64) lv (u2 fa 20 2 n60) (u2 (u2 la 20 0 n61) 20 1 n62)) from hD).weaken (fun _ _ _ h => hFc _ h)
          have xr59_0 : ∀ j : Nat, j < 2 → n61 j = n55 j ∧ n62 j = n56 j := xr59_0
          have xr59_1 : ∀ (pt : Int32) (w0 f0 : Nat), pt.toInt = ((iv 2 5) : Int32).toInt → (w48_i_2_6 : Int32).toInt = (oN w0).toInt → (w48_i_2_7 : Int32).toInt = (oN f0).toInt → (n63 : Int32).toInt = (oN (w0 + nT nO (fun q : Nat => ((fa 10 0) (9 * (((fa 2 2) q).toInt).toNat + 4)).toInt64) (fun q : Nat => ((fa 10 0) (9 * (((fa 2 2) q).toInt).toNat + 3)).toInt64) (((n : Int32).toInt).toNat - ((v58 : Int32).toInt).toNat) ((v58 : Int32).toInt).toNat 9 (n56 1) (n55 1))).toInt ∧ (n64 : Int32).toInt = (oN (f0 + nT (nF (n56 0) (n55 0) pt) (fun q : Nat => ((fa 10 0) (9 * (((fa 2 2) q).toInt).toNat + 4)).toInt64) (fun q : Nat => ((fa 10 0) (9 * (((fa 2 2) q).toInt).toNat + 3)).toInt64) (((n : Int32).toInt).toNat - ((v58 : Int32).toInt).toNat) ((v58 : Int32).toInt).toNat 9 (n56 1) (n55 1))).toInt := xr59_1
          refine lv_aload_n hx hb dX2_takeSome_80 rfl (lv_at hl 2 rfl) ?_
          refine gX_2_1 hx hb ht hown hK hP m_305 dX2_takeSome_81 ?_
          refine lv_iconst (v := 1) hx hb dX2_takeSome_84 (by decide) ?_
          refine lv_aload_n hx hb dX2_takeSome_85 rfl (lv_at hl 2 rfl) ?_
          refine gX_2_0 hx hb ht hown hK hP m_304 dX2_takeSome_86 ?_
          refine lv_iload hx hb dX2_takeSome_89 (lv_at hl 0 rfl) ?_
          refine lv_iconst (v := 3) hx hb dX2_takeSome_91 (by decide) ?_
          refine vp_callSi (W.runV (As := [.int v52, .int 3]) (rest := [.int 1, .ref (g 2 1)]) ⟨hx, hb, hml, hown, ht⟩ (c_X10_get_x3 l dC dI h g ca (u2 (u2 iv 2 6 n63) 2 7 n64) lv (u2 fa 20 2 n60) (u2 (u2 la 20 0 n61) 20 1 n62) (IX_a (c := 20) (k := 2) (IX_i (c := 2) (k := 7) (IX_i (c := 2) (k := 6) hI (full_i _)) (full_i _)) hn60) v52 ⟨by omega, by omega⟩) (kV 2 ht m_889 m_486 m_487 m_78 m_488 rfl rfl hd_X10_get_v ⟨Nat.le_of_ble_eq_true rfl, Nat.le_of_ble_eq_true rfl⟩) (vR hP hK (rX_10 hK hP)) rfl rfl hl.1 rfl (lv_room (Nat.le_of_ble_eq_true rfl)) dX2_takeSome_92 ⟨Nat.le_of_ble_eq_true rfl, Nat.le_of_ble_eq_true rfl⟩) (fun r65 hr65 => ?_)
          obtain ⟨hr65, xr65_0⟩ := hr65
          have xr65_0 : (r65 : Int32).toInt = ((fa 10 0) (9 * ((v52 : Int32).toInt).toNat + 3)).toInt := xr65_0
          refine lv_aload_n hx hb dX2_takeSome_95 rfl (lv_at hl 2 rfl) ?_
          refine gX_2_0 hx hb ht hown hK hP m_304 dX2_takeSome_96 ?_
          refine lv_iload hx hb dX2_takeSome_99 (lv_at hl 0 rfl) ?_
          refine lv_iconst (v := 4) hx hb dX2_takeSome_101 (by decide) ?_
          refine vp_callSi (W.runV (As := [.int v52, .int 4]) (rest := [.int r65, .int 1, .ref (g 2 1)]) ⟨hx, hb, hml, hown, ht⟩ (c_X10_get_x4 l dC dI h g ca (u2 (u2 iv 2 6 n63) 2 7 n64) lv (u2 fa 20 2 n60) (u2 (u2 la 20 0 n61) 20 1 n62) (IX_a (c := 20) (k := 2) (IX_i (c := 2) (k := 7) (IX_i (c := 2) (k := 6) hI (full_i _)) (full_i _)) hn60) v52 ⟨by omega, by omega⟩) (kV 2 ht m_889 m_486 m_487 m_78 m_488 rfl rfl hd_X10_get_v ⟨Nat.le_of_ble_eq_true rfl, Nat.le_of_ble_eq_true rfl⟩) (vR hP hK (rX_10 hK hP)) rfl rfl hl.1 rfl (lv_room (Nat.le_of_ble_eq_true rfl)) dX2_takeSome_102 ⟨Nat.le_of_ble_eq_true rfl, Nat.le_of_ble_eq_true rfl⟩) (fun r66 hr66 => ?_)
          obtain ⟨hr66, xr66_0⟩ := hr66
          have xr66_0 : (r66 : Int32).toInt = ((fa 10 0) (9 * ((v52 : Int32).toInt).toNat + 4)).toInt := xr66_0
          have hFc := free_all hD hS hA
          refine va_callv (va_runV (As := [.int 1, .int r65, .int r66]) (rest := []) ⟨hx, hb, hml, hown, ht⟩ (c_X7_remove_s20 l dC dI H.size h g ca (u2 (u2 iv 2 6 n63) 2 7 n64) lv (u2 fa 20 2 n60) (u2 (u2 la 20 0 n61) 20 1 n62) (IX_a (c := 20) (k := 2) (IX_i (c := 2) (k := 7) (IX_i (c := 2) (k := 6) hI (full_i _)) (full_i _)) hn60) 1 r65 r66 ⟨by decide, by decide⟩) (kV 3 ht m_937 m_938 m_939 m_84 m_940 rfl rfl hd_X7_remove_v ⟨Nat.le_of_ble_eq_true rfl, Nat.le_of_ble_eq_true rfl⟩) (vW hP hK hD (rX_20 hK hP)) rfl rfl hl.1 rfl (lv_room (Nat.le_of_ble_eq_true rfl)) dX2_takeSome_105 ⟨Nat.le_of_ble_eq_true rfl, Nat.le_of_ble_eq_true rfl⟩) hS (fun q _ h => hFc q h) hFc (fun u t H1 locs ht9 hvm hr67 hB hz1 hk1 hS => ?_)
          obtain ⟨n68, n69, n70, xr67_0, xr67_1, xr67_2, xr67_3, rfl⟩ := hr67
          have hn68 : ∀ j, inb (bA 20 2 j) (n68 j) := fun j => full_i _
          obtain ⟨hP, hD⟩ := hB
          rw [ht9] at hP
          generalize H1 = H at hP hS ⊢
          have hP : va_P (dC, dI) classes (WX h g ca (u2 (u2 iv 2 6 n63) 2 7 n64) lv (u2 fa 20 2 n68) (u2 (u2 la 20 0 n69) 20 1 n70)) H := hP
          have hD : va_D A (WX h g ca (u2 (u2 iv 2 6 n63) 2 7 n64) lv (u2 fa 20 2 n68) (u2 (u2 la 20 0 n69) 20 1 n70)) := (show va_D _ (WX h g ca (u2 (u2 iv 2 6 n63) 2 7 n64) lv (u2 fa 20 2 n68) (u2 (u2 la 20 0 n69) 20 1 n70)) from hD).weaken (fun _ _ _ h => hFc _ h)
          have xr67_0 : ∀ j : Nat, j ≠ (1 : Int32).toNatClampNeg → n69 j = n61 j := xr67_0
          have xr67_1 : ∀ j : Nat, j ≠ (1 : Int32).toNatClampNeg → n70 j = n62 j := xr67_1
          have xr67_2 : n69 (1 : Int32).toNatClampNeg = n61 (1 : Int32).toNatClampNeg - ((r65 : Int32)).toInt64 := xr67_2
          have xr67_3 : n70 (1 : Int32).toNatClampNeg = n62 (1 : Int32).toNatClampNeg - ((r66 : Int32)).toInt64 := xr67_3
          obtain ⟨v71, ev71⟩ : ∃ y : Int32, y = x48_4 + 1 := ⟨_, rfl⟩
          have tv71 := z_add ev71 rfl (by decide : (1 : Int32).toInt = 1) (by omega) (by omega)
          refine lv_iinc (v := v71) (lv' := [(4, .int v71), (5, .int v52), (0, .ref (g 11 6)), (1, .int 10), (2, .int k), (3, .int n)]) hx hb dX2_takeSome_108 hl (k := 1) rfl (by rw [ev71]; rfl) (by decide) rfl (fun ls hl => ?_)
          refine lv_goto (tgt := 44) hx hb dX2_takeSome_111 (by decide) ?_
          exact ih49 v71 n63 n64 n68 n69 n70 ⟨by omega, by omega⟩ hn68 (show ∀ j : Nat, j < 2 → n69 j = (la 20 0) j ∧ n70 j = (la 20 1) j from (fun j hj => by
                have z11 : (1 : Int32).toNatClampNeg = 1 := (by decide)
                have z10 : (0 : Nat) ≠ (1 : Int32).toNatClampNeg := (by decide)
                have hv9 : (v52 : Int32) = fa 2 2 ((x48_4 : Int32).toInt).toNat := ev52
                have p3 := xr53_3
                have p4 := xr53_4
                rw [z11] at p3 p4
                have k0 := hq49_0 0 (by decide)
                have k1 := hq49_0 1 (by decide)
                have hB : n55 1 = (la 20 0 1) + (fun q : Nat => ((fa 10 0) (9 * (((fa 2 2) q).toInt).toNat + 3)).toInt64) ((x48_4 : Int32).toInt).toNat := by rw [p3, k1.1, hv9]
                have hA : n56 1 = (la 20 1 1) + (fun q : Nat => ((fa 10 0) (9 * (((fa 2 2) q).toInt).toNat + 4)).toInt64) ((x48_4 : Int32).toInt).toNat := by rw [p4, k1.2, hv9]
                have hR : n55 0 = (la 20 0 0) := by rw [xr53_0 0 z10]; exact k0.1
                have hD : n56 0 = (la 20 1 0) := by rw [xr53_1 0 z10]; exact k0.2
                have hr3 : (r65 : Int32) = fa 10 0 (9 * ((v52 : Int32).toInt).toNat + 3) := Int32.toInt_inj.mp xr65_0
                have hr4 : (r66 : Int32) = fa 10 0 (9 * ((v52 : Int32).toInt).toNat + 4) := Int32.toInt_inj.mp xr66_0
                have m2 := xr67_2
                have m3 := xr67_3
                rw [z11] at m2 m3
                rcases (by omega : j = 0 ∨ j = 1) with rfl | rfl
                · rw [xr67_0 0 z10, xr67_1 0 z10, (xr59_0 0 (by decide)).1, (xr59_0 0 (by decide)).2, hR, hD]
                  exact ⟨rfl, rfl⟩
                · rw [m2, m3, (xr59_0 1 (by decide)).1, (xr59_0 1 (by decide)).2, p3, p4, hr3, hr4, Int64.add_sub_cancel, Int64.add_sub_cancel]
                  exact k1)) (show ∀ (pt : Int32) (w0 f0 : Nat), pt.toInt = (iv 2 5).toInt → (iv 2 6).toInt = (oN w0).toInt → (iv 2 7).toInt = (oN f0).toInt → ∃ u v : Nat, (n63 : Int32).toInt = (oN u).toInt ∧ (n64 : Int32).toInt = (oN v).toInt ∧ u + nT nO (fun q : Nat => ((fa 10 0) (9 * (((fa 2 2) q).toInt).toNat + 4)).toInt64) (fun q : Nat => ((fa 10 0) (9 * (((fa 2 2) q).toInt).toNat + 3)).toInt64) (((n).toInt).toNat - ((v71 : Int32).toInt).toNat) ((v71 : Int32).toInt).toNat 10 (la 20 1 1) (la 20 0 1) = w0 + nT nO (fun q : Nat => ((fa 10 0) (9 * (((fa 2 2) q).toInt).toNat + 4)).toInt64) (fun q : Nat => ((fa 10 0) (9 * (((fa 2 2) q).toInt).toNat + 3)).toInt64) (((n).toInt).toNat - ((k).toInt).toNat) ((k).toInt).toNat 10 (la 20 1 1) (la 20 0 1) ∧ v + nT (nF (la 20 1 0) (la 20 0 0) pt) (fun q : Nat => ((fa 10 0) (9 * (((fa 2 2) q).toInt).toNat + 4)).toInt64) (fun q : Nat => ((fa 10 0) (9 * (((fa 2 2) q).toInt).toNat + 3)).toInt64) (((n).toInt).toNat - ((v71 : Int32).toInt).toNat) ((v71 : Int32).toInt).toNat 10 (la 20 1 1) (la 20 0 1) = f0 + nT (nF (la 20 1 0) (la 20 0 0) pt) (fun q : Nat => ((fa 10 0) (9 * (((fa 2 2) q).toInt).toNat + 4)).toInt64) (fun q : Nat => ((fa 10 0) (9 * (((fa 2 2) q).toInt).toNat + 3)).toInt64) (((n).toInt).toNat - ((k).toInt).toNat) ((k).toInt).toNat 10 (la 20 1 1) (la 20 0 1) from (fun pt w0 f0 hpt h1 h2 => by
                have z11 : (1 : Int32).toNatClampNeg = 1 := (by decide)
                have z10 : (0 : Nat) ≠ (1 : Int32).toNatClampNeg := (by decide)
                have hv9 : (v52 : Int32) = fa 2 2 ((x48_4 : Int32).toInt).toNat := ev52
                have p3 := xr53_3
                have p4 := xr53_4
                rw [z11] at p3 p4
                have k0 := hq49_0 0 (by decide)
                have k1 := hq49_0 1 (by decide)
                have hB : n55 1 = (la 20 0 1) + (fun q : Nat => ((fa 10 0) (9 * (((fa 2 2) q).toInt).toNat + 3)).toInt64) ((x48_4 : Int32).toInt).toNat := by rw [p3, k1.1, hv9]
                have hA : n56 1 = (la 20 1 1) + (fun q : Nat => ((fa 10 0) (9 * (((fa 2 2) q).toInt).toNat + 4)).toInt64) ((x48_4 : Int32).toInt).toNat := by rw [p4, k1.2, hv9]
                have hR : n55 0 = (la 20 0 0) := by rw [xr53_0 0 z10]; exact k0.1
                have hD : n56 0 = (la 20 1 0) := by rw [xr53_1 0 z10]; exact k0.2
                obtain ⟨u, v, hw, hf, q1, q2⟩ := hq49_1 pt w0 f0 hpt h1 h2
                have hs9 : ((v71 : Int32).toInt).toNat = ((x48_4 : Int32).toInt).toNat + 1 := by omega
                have hk9 : ((v58 : Int32).toInt).toNat = ((x48_4 : Int32).toInt).toNat + 1 := by omega
                have hc9 := xr59_1 pt u v hpt hw hf
                rw [hA, hB, hD, hR, hk9] at hc9
                have hr9 : (n.toInt).toNat - ((x48_4 : Int32).toInt).toNat = (n.toInt).toNat - (((x48_4 : Int32).toInt).toNat + 1) + 1 := by omega
                have y1 := Tk_st (m' := 9) hr9 rfl q1
                have y2 := Tk_st (m' := 9) hr9 rfl q2
                rw [hs9]
                exact ⟨_, _, hc9.1, hc9.2, y1, y2⟩)) (by omega) _ _ ls hP hD hS (lv_sub hl [0, 2, 3, 4, 5] rfl)
    exact lp49 13 k (iv 2 6) (iv 2 7) (fa 20 2) (la 20 0) (la 20 1) ⟨by omega, by omega⟩ (hI.2 20 2) (show ∀ j : Nat, j < 2 → (la 20 0) j = (la 20 0) j ∧ (la 20 1) j = (la 20 1) j from (fun j hj => ⟨rfl, rfl⟩)) (show ∀ (pt : Int32) (w0 f0 : Nat), pt.toInt = (iv 2 5).toInt → (iv 2 6).toInt = (oN w0).toInt → (iv 2 7).toInt = (oN f0).toInt → ∃ u v : Nat, ((iv 2 6) : Int32).toInt = (oN u).toInt ∧ ((iv 2 7) : Int32).toInt = (oN v).toInt ∧ u + nT nO (fun q : Nat => ((fa 10 0) (9 * (((fa 2 2) q).toInt).toNat + 4)).toInt64) (fun q : Nat => ((fa 10 0) (9 * (((fa 2 2) q).toInt).toNat + 3)).toInt64) (((n).toInt).toNat - ((k : Int32).toInt).toNat) ((k : Int32).toInt).toNat 10 (la 20 1 1) (la 20 0 1) = w0 + nT nO (fun q : Nat => ((fa 10 0) (9 * (((fa 2 2) q).toInt).toNat + 4)).toInt64) (fun q : Nat => ((fa 10 0) (9 * (((fa 2 2) q).toInt).toNat + 3)).toInt64) (((n).toInt).toNat - ((k).toInt).toNat) ((k).toInt).toNat 10 (la 20 1 1) (la 20 0 1) ∧ v + nT (nF (la 20 1 0) (la 20 0 0) pt) (fun q : Nat => ((fa 10 0) (9 * (((fa 2 2) q).toInt).toNat + 4)).toInt64) (fun q : Nat => ((fa 10 0) (9 * (((fa 2 2) q).toInt).toNat + 3)).toInt64) (((n).toInt).toNat - ((k : Int32).toInt).toNat) ((k : Int32).toInt).toNat 10 (la 20 1 1) (la 20 0 1) = f0 + nT (nF (la 20 1 0) (la 20 0 0) pt) (fun q : Nat => ((fa 10 0) (9 * (((fa 2 2) q).toInt).toNat + 4)).toInt64) (fun q : Nat => ((fa 10 0) (9 * (((fa 2 2) q).toInt).toNat + 3)).toInt64) (((n).toInt).toNat - ((k).toInt).toNat) ((k).toInt).toNat 10 (la 20 1 1) (la 20 0 1) from (fun pt w0 f0 hpt h1 h2 => ⟨w0, f0, h1, h2, rfl, rfl⟩)) (by first | decide | omega) _ _ ls hP hD hS (lv_sub hl [0, 1, 2, 3, 4] rfl)
  · exact absurd c1 (by decide)
set_option maxHeartbeats 4000000 in
set_option maxRecDepth 100000 in
/-- X2_takeSome -/
theorem c_X2_takeSome_w11 (l : Launch) (dC : Nat → ClassId) (dI : Nat → Nat → Nat) (sz : Nat) (h : Nat) (g : Nat → Nat → Nat) (ca : Nat → Nat → ClassId) (iv : Nat → Nat → Int32) (lv : Nat → Nat → Int64) (fa : Nat → Nat → Nat → Int32) (la : Nat → Nat → Nat → Int64) (hI : IX iv fa) (k : Int32) (n : Int32) (h_k : 0 ≤ k.toInt ∧ k.toInt ≤ 12) (h_n : 0 ≤ n.toInt ∧ n.toInt ≤ 12) : Met l yX2_takeSome (wc yX2_takeSome cX2_takeSome 6 none) ({ frames := 13, cells := 0, slots := 0, locals := 338 } : Room) (pW (dC, dI) classes (WX h g ca iv lv fa la) (TX ca) sz [.ref (g 11 6), .int 11, .int k, .int n]) (va_Qv (fun (u : SS) => ∃ (na_20_2 : Nat → Int32) (nb_20_0 : Nat → Int64) (nb_20_1 : Nat → Int64) (ni_2_6 : Int32) (ni_2_7 : Int32), (∀ j : Nat, j < 2 → nb_20_0 j = (la 20 0) j ∧ nb_20_1 j = (la 20 1) j) ∧ (∀ (pt : Int32) (w0 f0 : Nat), pt.toInt = (iv 2 5).toInt → (iv 2 6).toInt = (oN w0).toInt → (iv 2 7).toInt = (oN f0).toInt → (ni_2_6).toInt = (oN (w0 + nT nO (fun q : Nat => ((fa 10 0) (9 * (((fa 2 2) q).toInt).toNat + 4)).toInt64) (fun q : Nat => ((fa 10 0) (9 * (((fa 2 2) q).toInt).toNat + 3)).toInt64) ((n.toInt).toNat - (k.toInt).toNat) (k.toInt).toNat 11 ((la 20 1) 1) ((la 20 0) 1))).toInt ∧ (ni_2_7).toInt = (oN (f0 + nT (nF ((la 20 1) 0) ((la 20 0) 0) pt) (fun q : Nat => ((fa 10 0) (9 * (((fa 2 2) q).toInt).toNat + 4)).toInt64) (fun q : Nat => ((fa 10 0) (9 * (((fa 2 2) q).toInt).toNat + 3)).toInt64) ((n.toInt).toNat - (k.toInt).toNat) (k.toInt).toNat 11 ((la 20 1) 1) ((la 20 0) 1))).toInt) ∧ u = ((u2 (u2 iv 2 6 ni_2_6) 2 7 ni_2_7), lv, (u2 fa 20 2 na_20_2), (u2 (u2 la 20 0 nb_20_0) 20 1 nb_20_1))) (bX (dC, dI) h g ca (va_A (WX h g ca iv lv fa la) sz)) (va_A (WX h g ca iv lv fa la) sz)) 0 0 (va_A (WX h g ca iv lv fa la) sz) := by
  refine Met.ofW (cc := cX2_takeSome) (maxL := 6) (ret := none) (by decide) rfl ?_
  intro p e s m args below meth c s₁ B hml hv
  obtain ⟨rfl, hsz, hP, hK, hD0⟩ := hv
  have hx := B.exec
  have hb := B.bytes
  have hr := B.returns
  have ht := tb_tl (atoms_spec (ws := wc yX2_takeSome cX2_takeSome 6 none) B.pre)
  have hown : s.vm.findClass RX2 = some m.cls := findClass_of_methodNamed B.named
  have hlocks := B.notSynchronized
  subst hsz
  have hD := hD0.self (sz := s.heap.size)
  generalize hAe : va_A (WX h g ca iv lv fa la) s.heap.size = A at hD ⊢
  have hA : ∀ q : Nat, s.heap.size ≤ q → A q := fun q h => by rw [← hAe]; exact Or.inr h
  have hS : va_S A s.heap s.heap [] := va_S.rf
  have hl := lv_entry [.ref (g 11 6), .int 11, .int k, .int n] (n := 6) (Nat.le_of_ble_eq_true rfl)
  rw [lg_entry_eq]
  generalize (lg_sl [.ref (g 11 6), .int 11, .int k, .int n] ++ List.replicate (6 - (lg_sl [.ref (g 11 6), .int 11, .int k, .int n]).length) Slot.unset).toArray = ls at hl ⊢
  have hl : lv_has ls 6 [(0, .ref (g 11 6)), (1, .int 11), (2, .int k), (3, .int n)] := hl
  refine lv_iload_n hx hb dX2_takeSome_0 rfl (lv_at hl 1 rfl) ?_
  refine lv_if_gt (tgt := 41) hx hb dX2_takeSome_1 (by decide) (fun c1 => ?_) (fun c1 => ?_)
  · skip
    refine lv_iload_n hx hb dX2_takeSome_41 rfl (lv_at hl 2 rfl) ?_
    refine lv_istore (lv' := [(4, .int k), (0, .ref (g 11 6)), (1, .int 11), (2, .int k), (3, .int n)]) hx hb dX2_takeSome_42 hl (by decide) rfl (fun ls hl => ?_)
    have lp49 : ∀ (nn49 : Nat) (x48_4 : Int32) (w48_i_2_6 : Int32) (w48_i_2_7 : Int32) (w48_a_20_2 : Nat → Int32) (w48_b_20_0 : Nat → Int64) (w48_b_20_1 : Nat → Int64), 0 ≤ x48_4.toInt ∧ x48_4.toInt ≤ 12 → (∀ j, inb (bA 20 2 j) (w48_a_20_2 j)) → (∀ j : Nat, j < 2 → w48_b_20_0 j = (la 20 0) j ∧ w48_b_20_1 j = (la 20 1) j) → (∀ (pt : Int32) (w0 f0 : Nat), pt.toInt = (iv 2 5).toInt → (iv 2 6).toInt = (oN w0).toInt → (iv 2 7).toInt = (oN f0).toInt → ∃ u v : Nat, (w48_i_2_6 : Int32).toInt = (oN u).toInt ∧ (w48_i_2_7 : Int32).toInt = (oN v).toInt ∧ u + nT nO (fun q : Nat => ((fa 10 0) (9 * (((fa 2 2) q).toInt).toNat + 4)).toInt64) (fun q : Nat => ((fa 10 0) (9 * (((fa 2 2) q).toInt).toNat + 3)).toInt64) (((n).toInt).toNat - ((x48_4 : Int32).toInt).toNat) ((x48_4 : Int32).toInt).toNat 11 (la 20 1 1) (la 20 0 1) = w0 + nT nO (fun q : Nat => ((fa 10 0) (9 * (((fa 2 2) q).toInt).toNat + 4)).toInt64) (fun q : Nat => ((fa 10 0) (9 * (((fa 2 2) q).toInt).toNat + 3)).toInt64) (((n).toInt).toNat - ((k).toInt).toNat) ((k).toInt).toNat 11 (la 20 1 1) (la 20 0 1) ∧ v + nT (nF (la 20 1 0) (la 20 0 0) pt) (fun q : Nat => ((fa 10 0) (9 * (((fa 2 2) q).toInt).toNat + 4)).toInt64) (fun q : Nat => ((fa 10 0) (9 * (((fa 2 2) q).toInt).toNat + 3)).toInt64) (((n).toInt).toNat - ((x48_4 : Int32).toInt).toNat) ((x48_4 : Int32).toInt).toNat 11 (la 20 1 1) (la 20 0 1) = f0 + nT (nF (la 20 1 0) (la 20 0 0) pt) (fun q : Nat => ((fa 10 0) (9 * (((fa 2 2) q).toInt).toNat + 4)).toInt64) (fun q : Nat => ((fa 10 0) (9 * (((fa 2 2) q).toInt).toNat + 3)).toInt64) (((n).toInt).toNat - ((k).toInt).toNat) ((k).toInt).toNat 11 (la 20 1 1) (la 20 0 1)) → 12 - x48_4.toInt < (nn49 : Int) → ∀ (H : Heap) (locs : List Loc), ∀ (ls : Array Slot), va_P (dC, dI) classes (WX h g ca (u2 (u2 iv 2 6 w48_i_2_6) 2 7 w48_i_2_7) lv (u2 fa 20 2 w48_a_20_2) (u2 (u2 la 20 0 w48_b_20_0) 20 1 w48_b_20_1)) H → va_D A (WX h g ca (u2 (u2 iv 2 6 w48_i_2_6) 2 7 w48_i_2_7) lv (u2 fa 20 2 w48_a_20_2) (u2 (u2 la 20 0 w48_b_20_0) 20 1 w48_b_20_1)) → va_S A s.heap H locs → lv_has ls 6 [(4, .int x48_4), (0, .ref (g 11 6)), (1, .int 11), (2, .int k), (3, .int n)] → W p l e ({ frames := 13, cells := 0, slots := 0, locals := 338 } : Room) s m ([.ref (g 11 6), .int 11, .int k, .int n] : List Value).toArray below meth c H locs 0 0 (MQ below (va_Qv (fun (u : SS) => ∃ (na_20_2 : Nat → Int32) (nb_20_0 : Nat → Int64) (nb_20_1 : Nat → Int64) (ni_2_6 : Int32) (ni_2_7 : Int32), (∀ j : Nat, j < 2 → nb_20_0 j = (la 20 0) j ∧ nb_20_1 j = (la 20 1) j) ∧ (∀ (pt : Int32) (w0 f0 : Nat), pt.toInt = (iv 2 5).toInt → (iv 2 6).toInt = (oN w0).toInt → (iv 2 7).toInt = (oN f0).toInt → (ni_2_6).toInt = (oN (w0 + nT nO (fun q : Nat => ((fa 10 0) (9 * (((fa 2 2) q).toInt).toNat + 4)).toInt64) (fun q : Nat => ((fa 10 0) (9 * (((fa 2 2) q).toInt).toNat + 3)).toInt64) ((n.toInt).toNat - (k.toInt).toNat) (k.toInt).toNat 11 ((la 20 1) 1) ((la 20 0) 1))).toInt ∧ (ni_2_7).toInt = (oN (f0 + nT (nF ((la 20 1) 0) ((la 20 0) 0) pt) (fun q : Nat => ((fa 10 0) (9 * (((fa 2 2) q).toInt).toNat + 4)).toInt64) (fun q : Nat => ((fa 10 0) (9 * (((fa 2 2) q).toInt).toNat + 3)).toInt64) ((n.toInt).toNat - (k.toInt).toNat) (k.toInt).toNat 11 ((la 20 1) 1) ((la 20 0) 1))).toInt) ∧ u = ((u2 (u2 iv 2 6 ni_2_6) 2 7 ni_2_7), lv, (u2 fa 20 2 na_20_2), (u2 (u2 la 20 0 nb_20_0) 20 1 nb_20_1))) (bX (dC, dI) h g ca A) A) ([.ref (g 11 6), .int 11, .int k, .int n] : List Value).toArray s 0 0 A) (F0 m 44 ls []) := by
      intro nn49
      induction nn49 with
      | zero => intro x48_4 w48_i_2_6 w48_i_2_7 w48_a_20_2 w48_b_20_0 w48_b_20_1 hx48_4 hw48_a_20_2 hq49_0 hq49_1 hm49; exfalso; omega
      | succ nn49 ih49 =>
        intro x48_4 w48_i_2_6 w48_i_2_7 w48_a_20_2 w48_b_20_0 w48_b_20_1 hx48_4 hw48_a_20_2 hq49_0 hq49_1 hm49 H locs ls hP hD hS hl
        refine lv_iload hx hb dX2_takeSome_44 (lv_at hl 0 rfl) ?_
        refine lv_iload_n hx hb dX2_takeSome_46 rfl (lv_at hl 4 rfl) ?_
        refine lv_iload_n hx hb dX2_takeSome_47 rfl (lv_at hl 2 rfl) ?_
        refine lv_isub hx hb dX2_takeSome_48 ?_
        refine lv_topi (fun v50 ev50 => ?_)
        have tv50 := z_sub ev50 (rfl : (n).toInt = _) (by decide : (11 : Int32).toInt = 11) (by omega) (by omega)
        refine lv_icmp_gt (tgt := 114) hx hb dX2_takeSome_49 (by decide) (fun c51 => ?_) (fun c51 => ?_)
        · have fc51 := z_lt (rfl : (v50).toInt = _) (rfl : (x48_4).toInt = _) c51
          have hP9 : va_P (dC, dI) classes (WX h g ca (u2 (u2 iv 2 6 w48_i_2_6) 2 7 w48_i_2_7) lv (u2 fa 20 2 w48_a_20_2) (u2 (u2 la 20 0 w48_b_20_0) 20 1 w48_b_20_1)) H := hP
          have hD9 : va_D A (WX h g ca (u2 (u2 iv 2 6 w48_i_2_6) 2 7 w48_i_2_7) lv (u2 fa 20 2 w48_a_20_2) (u2 (u2 la 20 0 w48_b_20_0) 20 1 w48_b_20_1)) := hD
          exact W.vret hx hb hr (fun t ht9 hW => ⟨⟨((u2 (u2 iv 2 6 w48_i_2_6) 2 7 w48_i_2_7), lv, (u2 fa 20 2 w48_a_20_2), (u2 (u2 la 20 0 w48_b_20_0) 20 1 w48_b_20_1)), rfl, ⟨w48_a_20_2, w48_b_20_0, w48_b_20_1, w48_i_2_6, w48_i_2_7, (show ∀ j : Nat, j < 2 → w48_b_20_0 j = (la 20 0) j ∧ w48_b_20_1 j = (la 20 1) j from hq49_0), (show ∀ (pt : Int32) (w0 f0 : Nat), pt.toInt = (iv 2 5).toInt → (iv 2 6).toInt = (oN w0).toInt → (iv 2 7).toInt = (oN f0).toInt → (w48_i_2_6 : Int32).toInt = (oN (w0 + nT nO (fun q : Nat => ((fa 10 0) (9 * (((fa 2 2) q).toInt).toNat + 4)).toInt64) (fun q : Nat => ((fa 10 0) (9 * (((fa 2 2) q).toInt).toNat + 3)).toInt64) (((n).toInt).toNat - ((k).toInt).toNat) ((k).toInt).toNat 11 ((la 20 1) 1) ((la 20 0) 1))).toInt ∧ (w48_i_2_7 : Int32).toInt = (oN (f0 + nT (nF ((la 20 1) 0) ((la 20 0) 0) pt) (fun q : Nat => ((fa 10 0) (9 * (((fa 2 2) q).toInt).toNat + 4)).toInt64) (fun q : Nat => ((fa 10 0) (9 * (((fa 2 2) q).toInt).toNat + 3)).toInt64) (((n).toInt).toNat - ((k).toInt).toNat) ((k).toInt).toNat 11 ((la 20 1) 1) ((la 20 0) 1))).toInt from (fun pt w0 f0 hpt h1 h2 => by
                obtain ⟨u, v, hw, hf, q1, q2⟩ := hq49_1 pt w0 f0 hpt h1 h2
                rw [nT_0 ((n.toInt).toNat - ((x48_4 : Int32).toInt).toNat) ((x48_4 : Int32).toInt).toNat 11 (la 20 1 1) (la 20 0 1) (by omega)] at q1 q2
                rw [← q1, ← q2]
                exact ⟨hw, hf⟩)), rfl⟩, by rw [ht9]; exact hP9, hD9⟩, hS.F ht9⟩) hS.2.2 dX2_takeSome_114
        · have fc51 := z_nlt (rfl : (v50).toInt = _) (rfl : (x48_4).toInt = _) c51
          refine lv_aload_n hx hb dX2_takeSome_52 rfl (lv_at hl 1 rfl) ?_
          refine gX_2_2 hx hb ht hown hK hP m_306 dX2_takeSome_53 ?_
          refine lv_iload hx hb dX2_takeSome_56 (lv_at hl 0 rfl) ?_
          refine lX_2_2 hx hb hK hP (f := (fa 2 2)) rfl (vp_in_iff.mpr ⟨by omega, by omega⟩) dX2_takeSome_58 ?_
          refine lv_topi (fun v52 ev52 => ?_)
          have tv52 : 0 ≤ v52.toInt ∧ v52.toInt ≤ 59 := by rw [ev52]; exact hI.2 2 2 _
          refine lv_istore (lv' := [(5, .int v52), (4, .int x48_4), (0, .ref (g 11 6)), (1, .int 11), (2, .int k), (3, .int n)]) hx hb dX2_takeSome_59 hl (by decide) rfl (fun ls hl => ?_)
          refine lv_aload_n hx hb dX2_takeSome_61 rfl (lv_at hl 2 rfl) ?_
          refine lv_iconst (v := 1) hx hb dX2_takeSome_62 (by decide) ?_
          refine lv_iload hx hb dX2_takeSome_63 (lv_at hl 0 rfl) ?_
          have hFc := free_all hD hS hA
          refine va_callv (va_runV (As := [.int 1, .int v52]) (rest := []) ⟨hx, hb, hml, hown, ht⟩ (c_X2_heap_w l dC dI H.size h g ca (u2 (u2 iv 2 6 w48_i_2_6) 2 7 w48_i_2_7) lv (u2 fa 20 2 w48_a_20_2) (u2 (u2 la 20 0 w48_b_20_0) 20 1 w48_b_20_1) (IX_a (c := 20) (k := 2) (IX_i (c := 2) (k := 7) (IX_i (c := 2) (k := 6) hI (full_i _)) (full_i _)) hw48_a_20_2) 1 v52 ⟨by decide, by decide⟩ ⟨by omega, by omega⟩) (kV 2 ht m_890 m_892 m_33 m_85 m_893 rfl rfl hd_X2_heap_v ⟨Nat.le_of_ble_eq_true rfl, Nat.le_of_ble_eq_true rfl⟩) (vW hP hK hD (rX_2 hK hP)) rfl rfl hl.1 rfl (lv_room (Nat.le_of_ble_eq_true rfl)) dX2_takeSome_65 ⟨Nat.le_of_ble_eq_true rfl, Nat.le_of_ble_eq_true rfl⟩) hS (fun q _ h => hFc q h) hFc (fun u t H1 locs ht9 hvm hr53 hB hz1 hk1 hS => ?_)
          obtain ⟨n54, n55, n56, xr53_0, xr53_1, xr53_2, xr53_3, xr53_4, xr53_5, rfl⟩ := hr53
          have hn54 : ∀ j, inb (bA 20 2 j) (n54 j) := fun j => full_i _
          obtain ⟨hP, hD⟩ := hB
          rw [ht9] at hP
          generalize H1 = H at hP hS ⊢
          have hP : va_P (dC, dI) classes (WX h g ca (u2 (u2 iv 2 6 w48_i_2_6) 2 7 w48_i_2_7) lv (u2 fa 20 2 n54) (u2 (u2 la 20 0 n55) 20 1 n56)) H := hP
          have hD : va_D A (WX h g ca (u2 (u2 iv 2 6 w48_i_2_6) 2 7 w48_i_2_7) lv (u2 fa 20 2 n54) (u2 (u2 la 20 0 n55) 20 1 n56)) := (show va_D _ (WX h g ca (u2 (u2 iv 2 6 w48_i_2_6) 2 7 w48_i_2_7) lv (u2 fa 20 2 n54) (u2 (u2 la 20 0 n55) 20 1 n56)) from hD).weaken (fun _ _ _ h => hFc _ h)
          have xr53_0 : ∀ j : Nat, j ≠ (1 : Int32).toNatClampNeg → n55 j = w48_b_20_0 j := xr53_0
          have xr53_1 : ∀ j : Nat, j ≠ (1 : Int32).toNatClampNeg → n56 j = w48_b_20_1 j := xr53_1
          have xr53_2 : ∀ j : Nat, j ≠ (1 : Int32).toNatClampNeg → n54 j = w48_a_20_2 j := xr53_2
          have xr53_3 : n55 (1 : Int32).toNatClampNeg = w48_b_20_0 (1 : Int32).toNatClampNeg + ((fa 10 0) (9 * ((v52 : Int32).toInt).toNat + 3)).toInt64 := xr53_3
          have xr53_4 : n56 (1 : Int32).toNatClampNeg = w48_b_20_1 (1 : Int32).toNatClampNeg + ((fa 10 0) (9 * ((v52 : Int32).toInt).toNat + 4)).toInt64 := xr53_4
          have xr53_5 : n54 (1 : Int32).toNatClampNeg = w48_a_20_2 (1 : Int32).toNatClampNeg + 1 := xr53_5
          refine lv_aload_n hx hb dX2_takeSome_68 rfl (lv_at hl 2 rfl) ?_
          refine lv_iload_n hx hb dX2_takeSome_69 rfl (lv_at hl 3 rfl) ?_
          refine lv_iconst (v := 1) hx hb dX2_takeSome_70 (by decide) ?_
          refine lv_isub hx hb dX2_takeSome_71 ?_
          refine lv_topi (fun v57 ev57 => ?_)
          obtain rfl : 10 = v57 := (ev57.trans (by decide)).symm
          refine lv_iload hx hb dX2_takeSome_72 (lv_at hl 1 rfl) ?_
          refine lv_iconst (v := 1) hx hb dX2_takeSome_74 (by decide) ?_
          refine lv_iadd hx hb dX2_takeSome_75 ?_
          refine lv_topi (fun v58 ev58 => ?_)
          have tv58 := z_add ev58 (rfl : (x48_4).toInt = _) (by decide : (1 : Int32).toInt = 1) (by omega) (by omega)
          refine lv_iload_n hx hb dX2_takeSome_76 rfl (lv_at hl 5 rfl) ?_
          have hFc := free_all hD hS hA
          refine va_callv (va_runV (As := [.int 10, .int v58, .int n]) (rest := []) ⟨hx, hb, hml, hown, ht⟩ (c_X2_takeSome_w10 l dC dI H.size h g ca (u2 (u2 iv 2 6 w48_i_2_6) 2 7 w48_i_2_7) lv (u2 fa 20 2 n54) (u2 (u2 la 20 0 n55) 20 1 n56) (IX_a (c := 20) (k := 2) (IX_i (c := 2) (k := 7) (IX_i (c := 2) (k := 6) hI (full_i _)) (full_i _)) hn54) v58 n ⟨by omega, by omega⟩ ⟨by omega, by omega⟩) (kV 3 ht m_933 m_935 m_38 m_85 m_936 rfl rfl hd_X2_takeSome_v ⟨Nat.le_of_ble_eq_true rfl, Nat.le_of_ble_eq_true rfl⟩) (vW hP hK hD (rX_2 hK hP)) rfl rfl hl.1 rfl (lv_room (Nat.le_of_ble_eq_true rfl)) dX2_takeSome_77 ⟨Nat.le_of_ble_eq_true rfl, Nat.le_of_ble_eq_true rfl⟩) hS (fun q _ h => hFc q h) hFc (fun u t H1 locs ht9 hvm hr59 hB hz1 hk1 hS => ?_)
          obtain ⟨n60, n61, n62, n63, n64, xr59_0, xr59_1, rfl⟩ := hr59
          have hn60 : ∀ j, inb (bA 20 2 j) (n60 j) := fun j => full_i _
          obtain ⟨hP, hD⟩ := hB
          rw [ht9] at hP
          generalize H1 = H at hP hS ⊢
          have hP : va_P (dC, dI) classes (WX h g ca (u2 (u2 iv 2 6 n63) 2 7 n64) lv (u2 fa 20 2 n60) (u2 (u2 la 20 0 n61) 20 1 n62)) H := hP
          have hD : va_D A (WX h g ca (u2 (u2 iv 2 6 n63) 2 7 n64) lv (u2 fa 20 2 n60) (u2 (u2 la 20 0 n61) 20 1 n62)) := (show va_D _ (WX h g ca (u2 (u2 iv 2 6 n63) 2 7 n64) lv (u2 fa 20 2 n60) (u2 (u2 la 20 0 n61) 20 1 n62)) from hD).weaken (fun _ _ _ h => hFc _ h)
          have xr59_0 : ∀ j : Nat, j < 2 → n61 j = n55 j ∧ n62 j = n56 j := xr59_0
          have xr59_1 : ∀ (pt : Int32) (w0 f0 : Nat), pt.toInt = ((iv 2 5) : Int32).toInt → (w48_i_2_6 : Int32).toInt = (oN w0).toInt → (w48_i_2_7 : Int32).toInt = (oN f0).toInt → (n63 : Int32).toInt = (oN (w0 + nT nO (fun q : Nat => ((fa 10 0) (9 * (((fa 2 2) q).toInt).toNat + 4)).toInt64) (fun q : Nat => ((fa 10 0) (9 * (((fa 2 2) q).toInt).toNat + 3)).toInt64) (((n : Int32).toInt).toNat - ((v58 : Int32).toInt).toNat) ((v58 : Int32).toInt).toNat 10 (n56 1) (n55 1))).toInt ∧ (n64 : Int32).toInt = (oN (f0 + nT (nF (n56 0) (n55 0) pt) (fun q : Nat => ((fa 10 0) (9 * (((fa 2 2) q).toInt).toNat + 4)).toInt64) (fun q : Nat => ((fa 10 0) (9 * (((fa 2 2) q).toInt).toNat + 3)).toInt64) (((n : Int32).toInt).toNat - ((v58 : Int32).toInt).toNat) ((v58 : Int32).toInt).toNat 10 (n56 1) (n55 1))).toInt := xr59_1
          refine lv_aload_n hx hb dX2_takeSome_80 rfl (lv_at hl 2 rfl) ?_
          refine gX_2_1 hx hb ht hown hK hP m_305 dX2_takeSome_81 ?_
          refine lv_iconst (v := 1) hx hb dX2_takeSome_84 (by decide) ?_
          refine lv_aload_n hx hb dX2_takeSome_85 rfl (lv_at hl 2 rfl) ?_
          refine gX_2_0 hx hb ht hown hK hP m_304 dX2_takeSome_86 ?_
          refine lv_iload hx hb dX2_takeSome_89 (lv_at hl 0 rfl) ?_
          refine lv_iconst (v := 3) hx hb dX2_takeSome_91 (by decide) ?_
          refine vp_callSi (W.runV (As := [.int v52, .int 3]) (rest := [.int 1, .ref (g 2 1)]) ⟨hx, hb, hml, hown, ht⟩ (c_X10_get_x3 l dC dI h g ca (u2 (u2 iv 2 6 n63) 2 7 n64) lv (u2 fa 20 2 n60) (u2 (u2 la 20 0 n61) 20 1 n62) (IX_a (c := 20) (k := 2) (IX_i (c := 2) (k := 7) (IX_i (c := 2) (k := 6) hI (full_i _)) (full_i _)) hn60) v52 ⟨by omega, by omega⟩) (kV 2 ht m_889 m_486 m_487 m_78 m_488 rfl rfl hd_X10_get_v ⟨Nat.le_of_ble_eq_true rfl, Nat.le_of_ble_eq_true rfl⟩) (vR hP hK (rX_10 hK hP)) rfl rfl hl.1 rfl (lv_room (Nat.le_of_ble_eq_true rfl)) dX2_takeSome_92 ⟨Nat.le_of_ble_eq_true rfl, Nat.le_of_ble_eq_true rfl⟩) (fun r65 hr65 => ?_)
          obtain ⟨hr65, xr65_0⟩ := hr65
          have xr65_0 : (r65 : Int32).toInt = ((fa 10 0) (9 * ((v52 : Int32).toInt).toNat + 3)).toInt := xr65_0
          refine lv_aload_n hx hb dX2_takeSome_95 rfl (lv_at hl 2 rfl) ?_
          refine gX_2_0 hx hb ht hown hK hP m_304 dX2_takeSome_96 ?_
          refine lv_iload hx hb dX2_takeSome_99 (lv_at hl 0 rfl) ?_
          refine lv_iconst (v := 4) hx hb dX2_takeSome_101 (by decide) ?_
          refine vp_callSi (W.runV (As := [.int v52, .int 4]) (rest := [.int r65, .int 1, .ref (g 2 1)]) ⟨hx, hb, hml, hown, ht⟩ (c_X10_get_x4 l dC dI h g ca (u2 (u2 iv 2 6 n63) 2 7 n64) lv (u2 fa 20 2 n60) (u2 (u2 la 20 0 n61) 20 1 n62) (IX_a (c := 20) (k := 2) (IX_i (c := 2) (k := 7) (IX_i (c := 2) (k := 6) hI (full_i _)) (full_i _)) hn60) v52 ⟨by omega, by omega⟩) (kV 2 ht m_889 m_486 m_487 m_78 m_488 rfl rfl hd_X10_get_v ⟨Nat.le_of_ble_eq_true rfl, Nat.le_of_ble_eq_true rfl⟩) (vR hP hK (rX_10 hK hP)) rfl rfl hl.1 rfl (lv_room (Nat.le_of_ble_eq_true rfl)) dX2_takeSome_102 ⟨Nat.le_of_ble_eq_true rfl, Nat.le_of_ble_eq_true rfl⟩) (fun r66 hr66 => ?_)
          obtain ⟨hr66, xr66_0⟩ := hr66
          have xr66_0 : (r66 : Int32).toInt = ((fa 10 0) (9 * ((v52 : Int32).toInt).toNat + 4)).toInt := xr66_0
          have hFc := free_all hD hS hA
          refine va_callv (va_runV (As := [.int 1, .int r65, .int r66]) (rest := []) ⟨hx, hb, hml, hown, ht⟩ (c_X7_remove_s20 l dC dI H.size h g ca (u2 (u2 iv 2 6 n63) 2 7 n64) lv (u2 fa 20 2 n60) (u2 (u2 la 20 0 n61) 20 1 n62) (IX_a (c := 20) (k := 2) (IX_i (c := 2) (k := 7) (IX_i (c := 2) (k := 6) hI (full_i _)) (full_i _)) hn60) 1 r65 r66 ⟨by decide, by decide⟩) (kV 3 ht m_937 m_938 m_939 m_84 m_940 rfl rfl hd_X7_remove_v ⟨Nat.le_of_ble_eq_true rfl, Nat.le_of_ble_eq_true rfl⟩) (vW hP hK hD (rX_20 hK hP)) rfl rfl hl.1 rfl (lv_room (Nat.le_of_ble_eq_true rfl)) dX2_takeSome_105 ⟨Nat.le_of_ble_eq_true rfl, Nat.le_of_ble_eq_true rfl⟩) hS (fun q _ h => hFc q h) hFc (fun u t H1 locs ht9 hvm hr67 hB hz1 hk1 hS => ?_)
          obtain ⟨n68, n69, n70, xr67_0, xr67_1, xr67_2, xr67_3, rfl⟩ := hr67
          have hn68 : ∀ j, inb (bA 20 2 j) (n68 j) := fun j => full_i _
          obtain ⟨hP, hD⟩ := hB
          rw [ht9] at hP
          generalize H1 = H at hP hS ⊢
          have hP : va_P (dC, dI) classes (WX h g ca (u2 (u2 iv 2 6 n63) 2 7 n64) lv (u2 fa 20 2 n68) (u2 (u2 la 20 0 n69) 20 1 n70)) H := hP
          have hD : va_D A (WX h g ca (u2 (u2 iv 2 6 n63) 2 7 n64) lv (u2 fa 20 2 n68) (u2 (u2 la 20 0 n69) 20 1 n70)) := (show va_D _ (WX h g ca (u2 (u2 iv 2 6 n63) 2 7 n64) lv (u2 fa 20 2 n68) (u2 (u2 la 20 0 n69) 20 1 n70)) from hD).weaken (fun _ _ _ h => hFc _ h)
          have xr67_0 : ∀ j : Nat, j ≠ (1 : Int32).toNatClampNeg → n69 j = n61 j := xr67_0
          have xr67_1 : ∀ j : Nat, j ≠ (1 : Int32).toNatClampNeg → n70 j = n62 j := xr67_1
          have xr67_2 : n69 (1 : Int32).toNatClampNeg = n61 (1 : Int32).toNatClampNeg - ((r65 : Int32)).toInt64 := xr67_2
          have xr67_3 : n70 (1 : Int32).toNatClampNeg = n62 (1 : Int32).toNatClampNeg - ((r66 : Int32)).toInt64 := xr67_3
          obtain ⟨v71, ev71⟩ : ∃ y : Int32, y = x48_4 + 1 := ⟨_, rfl⟩
          have tv71 := z_add ev71 rfl (by decide : (1 : Int32).toInt = 1) (by omega) (by omega)
          refine lv_iinc (v := v71) (lv' := [(4, .int v71), (5, .int v52), (0, .ref (g 11 6)), (1, .int 11), (2, .int k), (3, .int n)]) hx hb dX2_takeSome_108 hl (k := 1) rfl (by rw [ev71]; rfl) (by decide) rfl (fun ls hl => ?_)
          refine lv_goto (tgt := 44) hx hb dX2_takeSome_111 (by decide) ?_
          exact ih49 v71 n63 n64 n68 n69 n70 ⟨by omega, by omega⟩ hn68 (show ∀ j : Nat, j < 2 → n69 j = (la 20 0) j ∧ n70 j = (la 20 1) j from (fun j hj => by
                have z11 : (1 : Int32).toNatClampNeg = 1 := (by decide)
                have z10 : (0 : Nat) ≠ (1 : Int32).toNatClampNeg := (by decide)
                have hv9 : (v52 : Int32) = fa 2 2 ((x48_4 : Int32).toInt).toNat := ev52
                have p3 := xr53_3
                have p4 := xr53_4
                rw [z11] at p3 p4
                have k0 := hq49_0 0 (by decide)
                have k1 := hq49_0 1 (by decide)
                have hB : n55 1 = (la 20 0 1) + (fun q : Nat => ((fa 10 0) (9 * (((fa 2 2) q).toInt).toNat + 3)).toInt64) ((x48_4 : Int32).toInt).toNat := by rw [p3, k1.1, hv9]
                have hA : n56 1 = (la 20 1 1) + (fun q : Nat => ((fa 10 0) (9 * (((fa 2 2) q).toInt).toNat + 4)).toInt64) ((x48_4 : Int32).toInt).toNat := by rw [p4, k1.2, hv9]
                have hR : n55 0 = (la 20 0 0) := by rw [xr53_0 0 z10]; exact k0.1
                have hD : n56 0 = (la 20 1 0) := by rw [xr53_1 0 z10]; exact k0.2
                have hr3 : (r65 : Int32) = fa 10 0 (9 * ((v52 : Int32).toInt).toNat + 3) := Int32.toInt_inj.mp xr65_0
                have hr4 : (r66 : Int32) = fa 10 0 (9 * ((v52 : Int32).toInt).toNat + 4) := Int32.toInt_inj.mp xr66_0
                have m2 := xr67_2
                have m3 := xr67_3
                rw [z11] at m2 m3
                rcases (by omega : j = 0 ∨ j = 1) with rfl | rfl
                · rw [xr67_0 0 z10, xr67_1 0 z10, (xr59_0 0 (by decide)).1, (xr59_0 0 (by decide)).2, hR, hD]
                  exact ⟨rfl, rfl⟩
                · rw [m2, m3, (xr59_0 1 (by decide)).1, (xr59_0 1 (by decide)).2, p3, p4, hr3, hr4, Int64.add_sub_cancel, Int64.add_sub_cancel]
                  exact k1)) (show ∀ (pt : Int32) (w0 f0 : Nat), pt.toInt = (iv 2 5).toInt → (iv 2 6).toInt = (oN w0).toInt → (iv 2 7).toInt = (oN f0).toInt → ∃ u v : Nat, (n63 : Int32).toInt = (oN u).toInt ∧ (n64 : Int32).toInt = (oN v).toInt ∧ u + nT nO (fun q : Nat => ((fa 10 0) (9 * (((fa 2 2) q).toInt).toNat + 4)).toInt64) (fun q : Nat => ((fa 10 0) (9 * (((fa 2 2) q).toInt).toNat + 3)).toInt64) (((n).toInt).toNat - ((v71 : Int32).toInt).toNat) ((v71 : Int32).toInt).toNat 11 (la 20 1 1) (la 20 0 1) = w0 + nT nO (fun q : Nat => ((fa 10 0) (9 * (((fa 2 2) q).toInt).toNat + 4)).toInt64) (fun q : Nat => ((fa 10 0) (9 * (((fa 2 2) q).toInt).toNat + 3)).toInt64) (((n).toInt).toNat - ((k).toInt).toNat) ((k).toInt).toNat 11 (la 20 1 1) (la 20 0 1) ∧ v + nT (nF (la 20 1 0) (la 20 0 0) pt) (fun q : Nat => ((fa 10 0) (9 * (((fa 2 2) q).toInt).toNat + 4)).toInt64) (fun q : Nat => ((fa 10 0) (9 * (((fa 2 2) q).toInt).toNat + 3)).toInt64) (((n).toInt).toNat - ((v71 : Int32).toInt).toNat) ((v71 : Int32).toInt).toNat 11 (la 20 1 1) (la 20 0 1) = f0 + nT (nF (la 20 1 0) (la 20 0 0) pt) (fun q : Nat => ((fa 10 0) (9 * (((fa 2 2) q).toInt).toNat + 4)).toInt64) (fun q : Nat => ((fa 10 0) (9 * (((fa 2 2) q).toInt).toNat + 3)).toInt64) (((n).toInt).toNat - ((k).toInt).toNat) ((k).toInt).toNat 11 (la 20 1 1) (la 20 0 1) from (fun pt w0 f0 hpt h1 h2 => by
                have z11 : (1 : Int32).toNatClampNeg = 1 := (by decide)
                have z10 : (0 : Nat) ≠ (1 : Int32).toNatClampNeg := (by decide)
                have hv9 : (v52 : Int32) = fa 2 2 ((x48_4 : Int32).toInt).toNat := ev52
                have p3 := xr53_3
                have p4 := xr53_4
                rw [z11] at p3 p4
                have k0 := hq49_0 0 (by decide)
                have k1 := hq49_0 1 (by decide)
                have hB : n55 1 = (la 20 0 1) + (fun q : Nat => ((fa 10 0) (9 * (((fa 2 2) q).toInt).toNat + 3)).toInt64) ((x48_4 : Int32).toInt).toNat := by rw [p3, k1.1, hv9]
                have hA : n56 1 = (la 20 1 1) + (fun q : Nat => ((fa 10 0) (9 * (((fa 2 2) q).toInt).toNat + 4)).toInt64) ((x48_4 : Int32).toInt).toNat := by rw [p4, k1.2, hv9]
                have hR : n55 0 = (la 20 0 0) := by rw [xr53_0 0 z10]; exact k0.1
                have hD : n56 0 = (la 20 1 0) := by rw [xr53_1 0 z10]; exact k0.2
                obtain ⟨u, v, hw, hf, q1, q2⟩ := hq49_1 pt w0 f0 hpt h1 h2
                have hs9 : ((v71 : Int32).toInt).toNat = ((x48_4 : Int32).toInt).toNat + 1 := by omega
                have hk9 : ((v58 : Int32).toInt).toNat = ((x48_4 : Int32).toInt).toNat + 1 := by omega
                have hc9 := xr59_1 pt u v hpt hw hf
                rw [hA, hB, hD, hR, hk9] at hc9
                have hr9 : (n.toInt).toNat - ((x48_4 : Int32).toInt).toNat = (n.toInt).toNat - (((x48_4 : Int32).toInt).toNat + 1) + 1 := by omega
                have y1 := Tk_st (m' := 10) hr9 rfl q1
                have y2 := Tk_st (m' := 10) hr9 rfl q2
                rw [hs9]
                exact ⟨_, _, hc9.1, hc9.2, y1, y2⟩)) (by omega) _ _ ls hP hD hS (lv_sub hl [0, 2, 3, 4, 5] rfl)
    exact lp49 13 k (iv 2 6) (iv 2 7) (fa 20 2) (la 20 0) (la 20 1) ⟨by omega, by omega⟩ (hI.2 20 2) (show ∀ j : Nat, j < 2 → (la 20 0) j = (la 20 0) j ∧ (la 20 1) j = (la 20 1) j from (fun j hj => ⟨rfl, rfl⟩)) (show ∀ (pt : Int32) (w0 f0 : Nat), pt.toInt = (iv 2 5).toInt → (iv 2 6).toInt = (oN w0).toInt → (iv 2 7).toInt = (oN f0).toInt → ∃ u v : Nat, ((iv 2 6) : Int32).toInt = (oN u).toInt ∧ ((iv 2 7) : Int32).toInt = (oN v).toInt ∧ u + nT nO (fun q : Nat => ((fa 10 0) (9 * (((fa 2 2) q).toInt).toNat + 4)).toInt64) (fun q : Nat => ((fa 10 0) (9 * (((fa 2 2) q).toInt).toNat + 3)).toInt64) (((n).toInt).toNat - ((k : Int32).toInt).toNat) ((k : Int32).toInt).toNat 11 (la 20 1 1) (la 20 0 1) = w0 + nT nO (fun q : Nat => ((fa 10 0) (9 * (((fa 2 2) q).toInt).toNat + 4)).toInt64) (fun q : Nat => ((fa 10 0) (9 * (((fa 2 2) q).toInt).toNat + 3)).toInt64) (((n).toInt).toNat - ((k).toInt).toNat) ((k).toInt).toNat 11 (la 20 1 1) (la 20 0 1) ∧ v + nT (nF (la 20 1 0) (la 20 0 0) pt) (fun q : Nat => ((fa 10 0) (9 * (((fa 2 2) q).toInt).toNat + 4)).toInt64) (fun q : Nat => ((fa 10 0) (9 * (((fa 2 2) q).toInt).toNat + 3)).toInt64) (((n).toInt).toNat - ((k : Int32).toInt).toNat) ((k : Int32).toInt).toNat 11 (la 20 1 1) (la 20 0 1) = f0 + nT (nF (la 20 1 0) (la 20 0 0) pt) (fun q : Nat => ((fa 10 0) (9 * (((fa 2 2) q).toInt).toNat + 4)).toInt64) (fun q : Nat => ((fa 10 0) (9 * (((fa 2 2) q).toInt).toNat + 3)).toInt64) (((n).toInt).toNat - ((k).toInt).toNat) ((k).toInt).toNat 11 (la 20 1 1) (la 20 0 1) from (fun pt w0 f0 hpt h1 h2 => ⟨w0, f0, h1, h2, rfl, rfl⟩)) (by first | decide | omega) _ _ ls hP hD hS (lv_sub hl [0, 1, 2, 3, 4] rfl)
  · exact absurd c1 (by decide)
set_option maxHeartbeats 4000000 in
set_option maxRecDepth 100000 in
/-- X2_takeSome -/
theorem c_X2_takeSome_w12 (l : Launch) (dC : Nat → ClassId) (dI : Nat → Nat → Nat) (sz : Nat) (h : Nat) (g : Nat → Nat → Nat) (ca : Nat → Nat → ClassId) (iv : Nat → Nat → Int32) (lv : Nat → Nat → Int64) (fa : Nat → Nat → Nat → Int32) (la : Nat → Nat → Nat → Int64) (hI : IX iv fa) (k : Int32) (n : Int32) (h_k : 0 ≤ k.toInt ∧ k.toInt ≤ 12) (h_n : 0 ≤ n.toInt ∧ n.toInt ≤ 12) : Met l yX2_takeSome (wc yX2_takeSome cX2_takeSome 6 none) ({ frames := 14, cells := 0, slots := 0, locals := 363 } : Room) (pW (dC, dI) classes (WX h g ca iv lv fa la) (TX ca) sz [.ref (g 11 6), .int 12, .int k, .int n]) (va_Qv (fun (u : SS) => ∃ (na_20_2 : Nat → Int32) (nb_20_0 : Nat → Int64) (nb_20_1 : Nat → Int64) (ni_2_6 : Int32) (ni_2_7 : Int32), (∀ j : Nat, j < 2 → nb_20_0 j = (la 20 0) j ∧ nb_20_1 j = (la 20 1) j) ∧ (∀ (pt : Int32) (w0 f0 : Nat), pt.toInt = (iv 2 5).toInt → (iv 2 6).toInt = (oN w0).toInt → (iv 2 7).toInt = (oN f0).toInt → (ni_2_6).toInt = (oN (w0 + nT nO (fun q : Nat => ((fa 10 0) (9 * (((fa 2 2) q).toInt).toNat + 4)).toInt64) (fun q : Nat => ((fa 10 0) (9 * (((fa 2 2) q).toInt).toNat + 3)).toInt64) ((n.toInt).toNat - (k.toInt).toNat) (k.toInt).toNat 12 ((la 20 1) 1) ((la 20 0) 1))).toInt ∧ (ni_2_7).toInt = (oN (f0 + nT (nF ((la 20 1) 0) ((la 20 0) 0) pt) (fun q : Nat => ((fa 10 0) (9 * (((fa 2 2) q).toInt).toNat + 4)).toInt64) (fun q : Nat => ((fa 10 0) (9 * (((fa 2 2) q).toInt).toNat + 3)).toInt64) ((n.toInt).toNat - (k.toInt).toNat) (k.toInt).toNat 12 ((la 20 1) 1) ((la 20 0) 1))).toInt) ∧ u = ((u2 (u2 iv 2 6 ni_2_6) 2 7 ni_2_7), lv, (u2 fa 20 2 na_20_2), (u2 (u2 la 20 0 nb_20_0) 20 1 nb_20_1))) (bX (dC, dI) h g ca (va_A (WX h g ca iv lv fa la) sz)) (va_A (WX h g ca iv lv fa la) sz)) 0 0 (va_A (WX h g ca iv lv fa la) sz) := by
  refine Met.ofW (cc := cX2_takeSome) (maxL := 6) (ret := none) (by decide) rfl ?_
  intro p e s m args below meth c s₁ B hml hv
  obtain ⟨rfl, hsz, hP, hK, hD0⟩ := hv
  have hx := B.exec
  have hb := B.bytes
  have hr := B.returns
  have ht := tb_tl (atoms_spec (ws := wc yX2_takeSome cX2_takeSome 6 none) B.pre)
  have hown : s.vm.findClass RX2 = some m.cls := findClass_of_methodNamed B.named
  have hlocks := B.notSynchronized
  subst hsz
  have hD := hD0.self (sz := s.heap.size)
  generalize hAe : va_A (WX h g ca iv lv fa la) s.heap.size = A at hD ⊢
  have hA : ∀ q : Nat, s.heap.size ≤ q → A q := fun q h => by rw [← hAe]; exact Or.inr h
  have hS : va_S A s.heap s.heap [] := va_S.rf
  have hl := lv_entry [.ref (g 11 6), .int 12, .int k, .int n] (n := 6) (Nat.le_of_ble_eq_true rfl)
  rw [lg_entry_eq]
  generalize (lg_sl [.ref (g 11 6), .int 12, .int k, .int n] ++ List.replicate (6 - (lg_sl [.ref (g 11 6), .int 12, .int k, .int n]).length) Slot.unset).toArray = ls at hl ⊢
  have hl : lv_has ls 6 [(0, .ref (g 11 6)), (1, .int 12), (2, .int k), (3, .int n)] := hl
  refine lv_iload_n hx hb dX2_takeSome_0 rfl (lv_at hl 1 rfl) ?_
  refine lv_if_gt (tgt := 41) hx hb dX2_takeSome_1 (by decide) (fun c1 => ?_) (fun c1 => ?_)
  · skip
    refine lv_iload_n hx hb dX2_takeSome_41 rfl (lv_at hl 2 rfl) ?_
    refine lv_istore (lv' := [(4, .int k), (0, .ref (g 11 6)), (1, .int 12), (2, .int k), (3, .int n)]) hx hb dX2_takeSome_42 hl (by decide) rfl (fun ls hl => ?_)
    have lp49 : ∀ (nn49 : Nat) (x48_4 : Int32) (w48_i_2_6 : Int32) (w48_i_2_7 : Int32) (w48_a_20_2 : Nat → Int32) (w48_b_20_0 : Nat → Int64) (w48_b_20_1 : Nat → Int64), 0 ≤ x48_4.toInt ∧ x48_4.toInt ≤ 12 → (∀ j, inb (bA 20 2 j) (w48_a_20_2 j)) → (∀ j : Nat, j < 2 → w48_b_20_0 j = (la 20 0) j ∧ w48_b_20_1 j = (la 20 1) j) → (∀ (pt : Int32) (w0 f0 : Nat), pt.toInt = (iv 2 5).toInt → (iv 2 6).toInt = (oN w0).toInt → (iv 2 7).toInt = (oN f0).toInt → ∃ u v : Nat, (w48_i_2_6 : Int32).toInt = (oN u).toInt ∧ (w48_i_2_7 : Int32).toInt = (oN v).toInt ∧ u + nT nO (fun q : Nat => ((fa 10 0) (9 * (((fa 2 2) q).toInt).toNat + 4)).toInt64) (fun q : Nat => ((fa 10 0) (9 * (((fa 2 2) q).toInt).toNat + 3)).toInt64) (((n).toInt).toNat - ((x48_4 : Int32).toInt).toNat) ((x48_4 : Int32).toInt).toNat 12 (la 20 1 1) (la 20 0 1) = w0 + nT nO (fun q : Nat => ((fa 10 0) (9 * (((fa 2 2) q).toInt).toNat + 4)).toInt64) (fun q : Nat => ((fa 10 0) (9 * (((fa 2 2) q).toInt).toNat + 3)).toInt64) (((n).toInt).toNat - ((k).toInt).toNat) ((k).toInt).toNat 12 (la 20 1 1) (la 20 0 1) ∧ v + nT (nF (la 20 1 0) (la 20 0 0) pt) (fun q : Nat => ((fa 10 0) (9 * (((fa 2 2) q).toInt).toNat + 4)).toInt64) (fun q : Nat => ((fa 10 0) (9 * (((fa 2 2) q).toInt).toNat + 3)).toInt64) (((n).toInt).toNat - ((x48_4 : Int32).toInt).toNat) ((x48_4 : Int32).toInt).toNat 12 (la 20 1 1) (la 20 0 1) = f0 + nT (nF (la 20 1 0) (la 20 0 0) pt) (fun q : Nat => ((fa 10 0) (9 * (((fa 2 2) q).toInt).toNat + 4)).toInt64) (fun q : Nat => ((fa 10 0) (9 * (((fa 2 2) q).toInt).toNat + 3)).toInt64) (((n).toInt).toNat - ((k).toInt).toNat) ((k).toInt).toNat 12 (la 20 1 1) (la 20 0 1)) → 12 - x48_4.toInt < (nn49 : Int) → ∀ (H : Heap) (locs : List Loc), ∀ (ls : Array Slot), va_P (dC, dI) classes (WX h g ca (u2 (u2 iv 2 6 w48_i_2_6) 2 7 w48_i_2_7) lv (u2 fa 20 2 w48_a_20_2) (u2 (u2 la 20 0 w48_b_20_0) 20 1 w48_b_20_1)) H → va_D A (WX h g ca (u2 (u2 iv 2 6 w48_i_2_6) 2 7 w48_i_2_7) lv (u2 fa 20 2 w48_a_20_2) (u2 (u2 la 20 0 w48_b_20_0) 20 1 w48_b_20_1)) → va_S A s.heap H locs → lv_has ls 6 [(4, .int x48_4), (0, .ref (g 11 6)), (1, .int 12), (2, .int k), (3, .int n)] → W p l e ({ frames := 14, cells := 0, slots := 0, locals := 363 } : Room) s m ([.ref (g 11 6), .int 12, .int k, .int n] : List Value).toArray below meth c H locs 0 0 (MQ below (va_Qv (fun (u : SS) => ∃ (na_20_2 : Nat → Int32) (nb_20_0 : Nat → Int64) (nb_20_1 : Nat → Int64) (ni_2_6 : Int32) (ni_2_7 : Int32), (∀ j : Nat, j < 2 → nb_20_0 j = (la 20 0) j ∧ nb_20_1 j = (la 20 1) j) ∧ (∀ (pt : Int32) (w0 f0 : Nat), pt.toInt = (iv 2 5).toInt → (iv 2 6).toInt = (oN w0).toInt → (iv 2 7).toInt = (oN f0).toInt → (ni_2_6).toInt = (oN (w0 + nT nO (fun q : Nat => ((fa 10 0) (9 * (((fa 2 2) q).toInt).toNat + 4)).toInt64) (fun q : Nat => ((fa 10 0) (9 * (((fa 2 2) q).toInt).toNat + 3)).toInt64) ((n.toInt).toNat - (k.toInt).toNat) (k.toInt).toNat 12 ((la 20 1) 1) ((la 20 0) 1))).toInt ∧ (ni_2_7).toInt = (oN (f0 + nT (nF ((la 20 1) 0) ((la 20 0) 0) pt) (fun q : Nat => ((fa 10 0) (9 * (((fa 2 2) q).toInt).toNat + 4)).toInt64) (fun q : Nat => ((fa 10 0) (9 * (((fa 2 2) q).toInt).toNat + 3)).toInt64) ((n.toInt).toNat - (k.toInt).toNat) (k.toInt).toNat 12 ((la 20 1) 1) ((la 20 0) 1))).toInt) ∧ u = ((u2 (u2 iv 2 6 ni_2_6) 2 7 ni_2_7), lv, (u2 fa 20 2 na_20_2), (u2 (u2 la 20 0 nb_20_0) 20 1 nb_20_1))) (bX (dC, dI) h g ca A) A) ([.ref (g 11 6), .int 12, .int k, .int n] : List Value).toArray s 0 0 A) (F0 m 44 ls []) := by
      intro nn49
      induction nn49 with
      | zero => intro x48_4 w48_i_2_6 w48_i_2_7 w48_a_20_2 w48_b_20_0 w48_b_20_1 hx48_4 hw48_a_20_2 hq49_0 hq49_1 hm49; exfalso; omega
      | succ nn49 ih49 =>
        intro x48_4 w48_i_2_6 w48_i_2_7 w48_a_20_2 w48_b_20_0 w48_b_20_1 hx48_4 hw48_a_20_2 hq49_0 hq49_1 hm49 H locs ls hP hD hS hl
        refine lv_iload hx hb dX2_takeSome_44 (lv_at hl 0 rfl) ?_
        refine lv_iload_n hx hb dX2_takeSome_46 rfl (lv_at hl 4 rfl) ?_
        refine lv_iload_n hx hb dX2_takeSome_47 rfl (lv_at hl 2 rfl) ?_
        refine lv_isub hx hb dX2_takeSome_48 ?_
        refine lv_topi (fun v50 ev50 => ?_)
        have tv50 := z_sub ev50 (rfl : (n).toInt = _) (by decide : (12 : Int32).toInt = 12) (by omega) (by omega)
        refine lv_icmp_gt (tgt := 114) hx hb dX2_takeSome_49 (by decide) (fun c51 => ?_) (fun c51 => ?_)
        · have fc51 := z_lt (rfl : (v50).toInt = _) (rfl : (x48_4).toInt = _) c51
          have hP9 : va_P (dC, dI) classes (WX h g ca (u2 (u2 iv 2 6 w48_i_2_6) 2 7 w48_i_2_7) lv (u2 fa 20 2 w48_a_20_2) (u2 (u2 la 20 0 w48_b_20_0) 20 1 w48_b_20_1)) H := hP
          have hD9 : va_D A (WX h g ca (u2 (u2 iv 2 6 w48_i_2_6) 2 7 w48_i_2_7) lv (u2 fa 20 2 w48_a_20_2) (u2 (u2 la 20 0 w48_b_20_0) 20 1 w48_b_20_1)) := hD
          exact W.vret hx hb hr (fun t ht9 hW => ⟨⟨((u2 (u2 iv 2 6 w48_i_2_6) 2 7 w48_i_2_7), lv, (u2 fa 20 2 w48_a_20_2), (u2 (u2 la 20 0 w48_b_20_0) 20 1 w48_b_20_1)), rfl, ⟨w48_a_20_2, w48_b_20_0, w48_b_20_1, w48_i_2_6, w48_i_2_7, (show ∀ j : Nat, j < 2 → w48_b_20_0 j = (la 20 0) j ∧ w48_b_20_1 j = (la 20 1) j from hq49_0), (show ∀ (pt : Int32) (w0 f0 : Nat), pt.toInt = (iv 2 5).toInt → (iv 2 6).toInt = (oN w0).toInt → (iv 2 7).toInt = (oN f0).toInt → (w48_i_2_6 : Int32).toInt = (oN (w0 + nT nO (fun q : Nat => ((fa 10 0) (9 * (((fa 2 2) q).toInt).toNat + 4)).toInt64) (fun q : Nat => ((fa 10 0) (9 * (((fa 2 2) q).toInt).toNat + 3)).toInt64) (((n).toInt).toNat - ((k).toInt).toNat) ((k).toInt).toNat 12 ((la 20 1) 1) ((la 20 0) 1))).toInt ∧ (w48_i_2_7 : Int32).toInt = (oN (f0 + nT (nF ((la 20 1) 0) ((la 20 0) 0) pt) (fun q : Nat => ((fa 10 0) (9 * (((fa 2 2) q).toInt).toNat + 4)).toInt64) (fun q : Nat => ((fa 10 0) (9 * (((fa 2 2) q).toInt).toNat + 3)).toInt64) (((n).toInt).toNat - ((k).toInt).toNat) ((k).toInt).toNat 12 ((la 20 1) 1) ((la 20 0) 1))).toInt from (fun pt w0 f0 hpt h1 h2 => by
                obtain ⟨u, v, hw, hf, q1, q2⟩ := hq49_1 pt w0 f0 hpt h1 h2
                rw [nT_0 ((n.toInt).toNat - ((x48_4 : Int32).toInt).toNat) ((x48_4 : Int32).toInt).toNat 12 (la 20 1 1) (la 20 0 1) (by omega)] at q1 q2
                rw [← q1, ← q2]
                exact ⟨hw, hf⟩)), rfl⟩, by rw [ht9]; exact hP9, hD9⟩, hS.F ht9⟩) hS.2.2 dX2_takeSome_114
        · have fc51 := z_nlt (rfl : (v50).toInt = _) (rfl : (x48_4).toInt = _) c51
          refine lv_aload_n hx hb dX2_takeSome_52 rfl (lv_at hl 1 rfl) ?_
          refine gX_2_2 hx hb ht hown hK hP m_306 dX2_takeSome_53 ?_
          refine lv_iload hx hb dX2_takeSome_56 (lv_at hl 0 rfl) ?_
          refine lX_2_2 hx hb hK hP (f := (fa 2 2)) rfl (vp_in_iff.mpr ⟨by omega, by omega⟩) dX2_takeSome_58 ?_
          refine lv_topi (fun v52 ev52 => ?_)
          have tv52 : 0 ≤ v52.toInt ∧ v52.toInt ≤ 59 := by rw [ev52]; exact hI.2 2 2 _
          refine lv_istore (lv' := [(5, .int v52), (4, .int x48_4), (0, .ref (g 11 6)), (1, .int 12), (2, .int k), (3, .int n)]) hx hb dX2_takeSome_59 hl (by decide) rfl (fun ls hl => ?_)
          refine lv_aload_n hx hb dX2_takeSome_61 rfl (lv_at hl 2 rfl) ?_
          refine lv_iconst (v := 1) hx hb dX2_takeSome_62 (by decide) ?_
          refine lv_iload hx hb dX2_takeSome_63 (lv_at hl 0 rfl) ?_
          have hFc := free_all hD hS hA
          refine va_callv (va_runV (As := [.int 1, .int v52]) (rest := []) ⟨hx, hb, hml, hown, ht⟩ (c_X2_heap_w l dC dI H.size h g ca (u2 (u2 iv 2 6 w48_i_2_6) 2 7 w48_i_2_7) lv (u2 fa 20 2 w48_a_20_2) (u2 (u2 la 20 0 w48_b_20_0) 20 1 w48_b_20_1) (IX_a (c := 20) (k := 2) (IX_i (c := 2) (k := 7) (IX_i (c := 2) (k := 6) hI (full_i _)) (full_i _)) hw48_a_20_2) 1 v52 ⟨by decide, by decide⟩ ⟨by omega, by omega⟩) (kV 2 ht m_890 m_892 m_33 m_85 m_893 rfl rfl hd_X2_heap_v ⟨Nat.le_of_ble_eq_true rfl, Nat.le_of_ble_eq_true rfl⟩) (vW hP hK hD (rX_2 hK hP)) rfl rfl hl.1 rfl (lv_room (Nat.le_of_ble_eq_true rfl)) dX2_takeSome_65 ⟨Nat.le_of_ble_eq_true rfl, Nat.le_of_ble_eq_true rfl⟩) hS (fun q _ h => hFc q h) hFc (fun u t H1 locs ht9 hvm hr53 hB hz1 hk1 hS => ?_)
          obtain ⟨n54, n55, n56, xr53_0, xr53_1, xr53_2, xr53_3, xr53_4, xr53_5, rfl⟩ := hr53
          have hn54 : ∀ j, inb (bA 20 2 j) (n54 j) := fun j => full_i _
          obtain ⟨hP, hD⟩ := hB
          rw [ht9] at hP
          generalize H1 = H at hP hS ⊢
          have hP : va_P (dC, dI) classes (WX h g ca (u2 (u2 iv 2 6 w48_i_2_6) 2 7 w48_i_2_7) lv (u2 fa 20 2 n54) (u2 (u2 la 20 0 n55) 20 1 n56)) H := hP
          have hD : va_D A (WX h g ca (u2 (u2 iv 2 6 w48_i_2_6) 2 7 w48_i_2_7) lv (u2 fa 20 2 n54) (u2 (u2 la 20 0 n55) 20 1 n56)) := (show va_D _ (WX h g ca (u2 (u2 iv 2 6 w48_i_2_6) 2 7 w48_i_2_7) lv (u2 fa 20 2 n54) (u2 (u2 la 20 0 n55) 20 1 n56)) from hD).weaken (fun _ _ _ h => hFc _ h)
          have xr53_0 : ∀ j : Nat, j ≠ (1 : Int32).toNatClampNeg → n55 j = w48_b_20_0 j := xr53_0
          have xr53_1 : ∀ j : Nat, j ≠ (1 : Int32).toNatClampNeg → n56 j = w48_b_20_1 j := xr53_1
          have xr53_2 : ∀ j : Nat, j ≠ (1 : Int32).toNatClampNeg → n54 j = w48_a_20_2 j := xr53_2
          have xr53_3 : n55 (1 : Int32).toNatClampNeg = w48_b_20_0 (1 : Int32).toNatClampNeg + ((fa 10 0) (9 * ((v52 : Int32).toInt).toNat + 3)).toInt64 := xr53_3
          have xr53_4 : n56 (1 : Int32).toNatClampNeg = w48_b_20_1 (1 : Int32).toNatClampNeg + ((fa 10 0) (9 * ((v52 : Int32).toInt).toNat + 4)).toInt64 := xr53_4
          have xr53_5 : n54 (1 : Int32).toNatClampNeg = w48_a_20_2 (1 : Int32).toNatClampNeg + 1 := xr53_5
          refine lv_aload_n hx hb dX2_takeSome_68 rfl (lv_at hl 2 rfl) ?_
          refine lv_iload_n hx hb dX2_takeSome_69 rfl (lv_at hl 3 rfl) ?_
          refine lv_iconst (v := 1) hx hb dX2_takeSome_70 (by decide) ?_
          refine lv_isub hx hb dX2_takeSome_71 ?_
          refine lv_topi (fun v57 ev57 => ?_)
          obtain rfl : 11 = v57 := (ev57.trans (by decide)).symm
          refine lv_iload hx hb dX2_takeSome_72 (lv_at hl 1 rfl) ?_
          refine lv_iconst (v := 1) hx hb dX2_takeSome_74 (by decide) ?_
          refine lv_iadd hx hb dX2_takeSome_75 ?_
          refine lv_topi (fun v58 ev58 => ?_)
          have tv58 := z_add ev58 (rfl : (x48_4).toInt = _) (by decide : (1 : Int32).toInt = 1) (by omega) (by omega)
          refine lv_iload_n hx hb dX2_takeSome_76 rfl (lv_at hl 5 rfl) ?_
          have hFc := free_all hD hS hA
          refine va_callv (va_runV (As := [.int 11, .int v58, .int n]) (rest := []) ⟨hx, hb, hml, hown, ht⟩ (c_X2_takeSome_w11 l dC dI H.size h g ca (u2 (u2 iv 2 6 w48_i_2_6) 2 7 w48_i_2_7) lv (u2 fa 20 2 n54) (u2 (u2 la 20 0 n55) 20 1 n56) (IX_a (c := 20) (k := 2) (IX_i (c := 2) (k := 7) (IX_i (c := 2) (k := 6) hI (full_i _)) (full_i _)) hn54) v58 n ⟨by omega, by omega⟩ ⟨by omega, by omega⟩) (kV 3 ht m_933 m_935 m_38 m_85 m_936 rfl rfl hd_X2_takeSome_v ⟨Nat.le_of_ble_eq_true rfl, Nat.le_of_ble_eq_true rfl⟩) (vW hP hK hD (rX_2 hK hP)) rfl rfl hl.1 rfl (lv_room (Nat.le_of_ble_eq_true rfl)) dX2_takeSome_77 ⟨Nat.le_of_ble_eq_true rfl, Nat.le_of_ble_eq_true rfl⟩) hS (fun q _ h => hFc q h) hFc (fun u t H1 locs ht9 hvm hr59 hB hz1 hk1 hS => ?_)
          obtain ⟨n60, n61, n62, n63, n64, xr59_0, xr59_1, rfl⟩ := hr59
          have hn60 : ∀ j, inb (bA 20 2 j) (n60 j) := fun j => full_i _
          obtain ⟨hP, hD⟩ := hB
          rw [ht9] at hP
          generalize H1 = H at hP hS ⊢
          have hP : va_P (dC, dI) classes (WX h g ca (u2 (u2 iv 2 6 n63) 2 7 n64) lv (u2 fa 20 2 n60) (u2 (u2 la 20 0 n61) 20 1 n62)) H := hP
          have hD : va_D A (WX h g ca (u2 (u2 iv 2 6 n63) 2 7 n64) lv (u2 fa 20 2 n60) (u2 (u2 la 20 0 n61) 20 1 n62)) := (show va_D _ (WX h g ca (u2 (u2 iv 2 6 n63) 2 7 n64) lv (u2 fa 20 2 n60) (u2 (u2 la 20 0 n61) 20 1 n62)) from hD).weaken (fun _ _ _ h => hFc _ h)
          have xr59_0 : ∀ j : Nat, j < 2 → n61 j = n55 j ∧ n62 j = n56 j := xr59_0
          have xr59_1 : ∀ (pt : Int32) (w0 f0 : Nat), pt.toInt = ((iv 2 5) : Int32).toInt → (w48_i_2_6 : Int32).toInt = (oN w0).toInt → (w48_i_2_7 : Int32).toInt = (oN f0).toInt → (n63 : Int32).toInt = (oN (w0 + nT nO (fun q : Nat => ((fa 10 0) (9 * (((fa 2 2) q).toInt).toNat + 4)).toInt64) (fun q : Nat => ((fa 10 0) (9 * (((fa 2 2) q).toInt).toNat + 3)).toInt64) (((n : Int32).toInt).toNat - ((v58 : Int32).toInt).toNat) ((v58 : Int32).toInt).toNat 11 (n56 1) (n55 1))).toInt ∧ (n64 : Int32).toInt = (oN (f0 + nT (nF (n56 0) (n55 0) pt) (fun q : Nat => ((fa 10 0) (9 * (((fa 2 2) q).toInt).toNat + 4)).toInt64) (fun q : Nat => ((fa 10 0) (9 * (((fa 2 2) q).toInt).toNat + 3)).toInt64) (((n : Int32).toInt).toNat - ((v58 : Int32).toInt).toNat) ((v58 : Int32).toInt).toNat 11 (n56 1) (n55 1))).toInt := xr59_1
          refine lv_aload_n hx hb dX2_takeSome_80 rfl (lv_at hl 2 rfl) ?_
          refine gX_2_1 hx hb ht hown hK hP m_305 dX2_takeSome_81 ?_
          refine lv_iconst (v := 1) hx hb dX2_takeSome_84 (by decide) ?_
          refine lv_aload_n hx hb dX2_takeSome_85 rfl (lv_at hl 2 rfl) ?_
          refine gX_2_0 hx hb ht hown hK hP m_304 dX2_takeSome_86 ?_
          refine lv_iload hx hb dX2_takeSome_89 (lv_at hl 0 rfl) ?_
          refine lv_iconst (v := 3) hx hb dX2_takeSome_91 (by decide) ?_
          refine vp_callSi (W.runV (As := [.int v52, .int 3]) (rest := [.int 1, .ref (g 2 1)]) ⟨hx, hb, hml, hown, ht⟩ (c_X10_get_x3 l dC dI h g ca (u2 (u2 iv 2 6 n63) 2 7 n64) lv (u2 fa 20 2 n60) (u2 (u2 la 20 0 n61) 20 1 n62) (IX_a (c := 20) (k := 2) (IX_i (c := 2) (k := 7) (IX_i (c := 2) (k := 6) hI (full_i _)) (full_i _)) hn60) v52 ⟨by omega, by omega⟩) (kV 2 ht m_889 m_486 m_487 m_78 m_488 rfl rfl hd_X10_get_v ⟨Nat.le_of_ble_eq_true rfl, Nat.le_of_ble_eq_true rfl⟩) (vR hP hK (rX_10 hK hP)) rfl rfl hl.1 rfl (lv_room (Nat.le_of_ble_eq_true rfl)) dX2_takeSome_92 ⟨Nat.le_of_ble_eq_true rfl, Nat.le_of_ble_eq_true rfl⟩) (fun r65 hr65 => ?_)
          obtain ⟨hr65, xr65_0⟩ := hr65
          have xr65_0 : (r65 : Int32).toInt = ((fa 10 0) (9 * ((v52 : Int32).toInt).toNat + 3)).toInt := xr65_0
          refine lv_aload_n hx hb dX2_takeSome_95 rfl (lv_at hl 2 rfl) ?_
          refine gX_2_0 hx hb ht hown hK hP m_304 dX2_takeSome_96 ?_
          refine lv_iload hx hb dX2_takeSome_99 (lv_at hl 0 rfl) ?_
          refine lv_iconst (v := 4) hx hb dX2_takeSome_101 (by decide) ?_
          refine vp_callSi (W.runV (As := [.int v52, .int 4]) (rest := [.int r65, .int 1, .ref (g 2 1)]) ⟨hx, hb, hml, hown, ht⟩ (c_X10_get_x4 l dC dI h g ca (u2 (u2 iv 2 6 n63) 2 7 n64) lv (u2 fa 20 2 n60) (u2 (u2 la 20 0 n61) 20 1 n62) (IX_a (c := 20) (k := 2) (IX_i (c := 2) (k := 7) (IX_i (c := 2) (k := 6) hI (full_i _)) (full_i _)) hn60) v52 ⟨by omega, by omega⟩) (kV 2 ht m_889 m_486 m_487 m_78 m_488 rfl rfl hd_X10_get_v ⟨Nat.le_of_ble_eq_true rfl, Nat.le_of_ble_eq_true rfl⟩) (vR hP hK (rX_10 hK hP)) rfl rfl hl.1 rfl (lv_room (Nat.le_of_ble_eq_true rfl)) dX2_takeSome_102 ⟨Nat.le_of_ble_eq_true rfl, Nat.le_of_ble_eq_true rfl⟩) (fun r66 hr66 => ?_)
          obtain ⟨hr66, xr66_0⟩ := hr66
          have xr66_0 : (r66 : Int32).toInt = ((fa 10 0) (9 * ((v52 : Int32).toInt).toNat + 4)).toInt := xr66_0
          have hFc := free_all hD hS hA
          refine va_callv (va_runV (As := [.int 1, .int r65, .int r66]) (rest := []) ⟨hx, hb, hml, hown, ht⟩ (c_X7_remove_s20 l dC dI H.size h g ca (u2 (u2 iv 2 6 n63) 2 7 n64) lv (u2 fa 20 2 n60) (u2 (u2 la 20 0 n61) 20 1 n62) (IX_a (c := 20) (k := 2) (IX_i (c := 2) (k := 7) (IX_i (c := 2) (k := 6) hI (full_i _)) (full_i _)) hn60) 1 r65 r66 ⟨by decide, by decide⟩) (kV 3 ht m_937 m_938 m_939 m_84 m_940 rfl rfl hd_X7_remove_v ⟨Nat.le_of_ble_eq_true rfl, Nat.le_of_ble_eq_true rfl⟩) (vW hP hK hD (rX_20 hK hP)) rfl rfl hl.1 rfl (lv_room (Nat.le_of_ble_eq_true rfl)) dX2_takeSome_105 ⟨Nat.le_of_ble_eq_true rfl, Nat.le_of_ble_eq_true rfl⟩) hS (fun q _ h => hFc q h) hFc (fun u t H1 locs ht9 hvm hr67 hB hz1 hk1 hS => ?_)
          obtain ⟨n68, n69, n70, xr67_0, xr67_1, xr67_2, xr67_3, rfl⟩ := hr67
          have hn68 : ∀ j, inb (bA 20 2 j) (n68 j) := fun j => full_i _
          obtain ⟨hP, hD⟩ := hB
          rw [ht9] at hP
          generalize H1 = H at hP hS ⊢
          have hP : va_P (dC, dI) classes (WX h g ca (u2 (u2 iv 2 6 n63) 2 7 n64) lv (u2 fa 20 2 n68) (u2 (u2 la 20 0 n69) 20 1 n70)) H := hP
          have hD : va_D A (WX h g ca (u2 (u2 iv 2 6 n63) 2 7 n64) lv (u2 fa 20 2 n68) (u2 (u2 la 20 0 n69) 20 1 n70)) := (show va_D _ (WX h g ca (u2 (u2 iv 2 6 n63) 2 7 n64) lv (u2 fa 20 2 n68) (u2 (u2 la 20 0 n69) 20 1 n70)) from hD).weaken (fun _ _ _ h => hFc _ h)
          have xr67_0 : ∀ j : Nat, j ≠ (1 : Int32).toNatClampNeg → n69 j = n61 j := xr67_0
          have xr67_1 : ∀ j : Nat, j ≠ (1 : Int32).toNatClampNeg → n70 j = n62 j := xr67_1
          have xr67_2 : n69 (1 : Int32).toNatClampNeg = n61 (1 : Int32).toNatClampNeg - ((r65 : Int32)).toInt64 := xr67_2
          have xr67_3 : n70 (1 : Int32).toNatClampNeg = n62 (1 : Int32).toNatClampNeg - ((r66 : Int32)).toInt64 := xr67_3
          obtain ⟨v71, ev71⟩ : ∃ y : Int32, y = x48_4 + 1 := ⟨_, rfl⟩
          have tv71 := z_add ev71 rfl (by decide : (1 : Int32).toInt = 1) (by omega) (by omega)
          refine lv_iinc (v := v71) (lv' := [(4, .int v71), (5, .int v52), (0, .ref (g 11 6)), (1, .int 12), (2, .int k), (3, .int n)]) hx hb dX2_takeSome_108 hl (k := 1) rfl (by rw [ev71]; rfl) (by decide) rfl (fun ls hl => ?_)
          refine lv_goto (tgt := 44) hx hb dX2_takeSome_111 (by decide) ?_
          exact ih49 v71 n63 n64 n68 n69 n70 ⟨by omega, by omega⟩ hn68 (show ∀ j : Nat, j < 2 → n69 j = (la 20 0) j ∧ n70 j = (la 20 1) j from (fun j hj => by
                have z11 : (1 : Int32).toNatClampNeg = 1 := (by decide)
                have z10 : (0 : Nat) ≠ (1 : Int32).toNatClampNeg := (by decide)
                have hv9 : (v52 : Int32) = fa 2 2 ((x48_4 : Int32).toInt).toNat := ev52
                have p3 := xr53_3
                have p4 := xr53_4
                rw [z11] at p3 p4
                have k0 := hq49_0 0 (by decide)
                have k1 := hq49_0 1 (by decide)
                have hB : n55 1 = (la 20 0 1) + (fun q : Nat => ((fa 10 0) (9 * (((fa 2 2) q).toInt).toNat + 3)).toInt64) ((x48_4 : Int32).toInt).toNat := by rw [p3, k1.1, hv9]
                have hA : n56 1 = (la 20 1 1) + (fun q : Nat => ((fa 10 0) (9 * (((fa 2 2) q).toInt).toNat + 4)).toInt64) ((x48_4 : Int32).toInt).toNat := by rw [p4, k1.2, hv9]
                have hR : n55 0 = (la 20 0 0) := by rw [xr53_0 0 z10]; exact k0.1
                have hD : n56 0 = (la 20 1 0) := by rw [xr53_1 0 z10]; exact k0.2
                have hr3 : (r65 : Int32) = fa 10 0 (9 * ((v52 : Int32).toInt).toNat + 3) := Int32.toInt_inj.mp xr65_0
                have hr4 : (r66 : Int32) = fa 10 0 (9 * ((v52 : Int32).toInt).toNat + 4) := Int32.toInt_inj.mp xr66_0
                have m2 := xr67_2
                have m3 := xr67_3
                rw [z11] at m2 m3
                rcases (by omega : j = 0 ∨ j = 1) with rfl | rfl
                · rw [xr67_0 0 z10, xr67_1 0 z10, (xr59_0 0 (by decide)).1, (xr59_0 0 (by decide)).2, hR, hD]
                  exact ⟨rfl, rfl⟩
                · rw [m2, m3, (xr59_0 1 (by decide)).1, (xr59_0 1 (by decide)).2, p3, p4, hr3, hr4, Int64.add_sub_cancel, Int64.add_sub_cancel]
                  exact k1)) (show ∀ (pt : Int32) (w0 f0 : Nat), pt.toInt = (iv 2 5).toInt → (iv 2 6).toInt = (oN w0).toInt → (iv 2 7).toInt = (oN f0).toInt → ∃ u v : Nat, (n63 : Int32).toInt = (oN u).toInt ∧ (n64 : Int32).toInt = (oN v).toInt ∧ u + nT nO (fun q : Nat => ((fa 10 0) (9 * (((fa 2 2) q).toInt).toNat + 4)).toInt64) (fun q : Nat => ((fa 10 0) (9 * (((fa 2 2) q).toInt).toNat + 3)).toInt64) (((n).toInt).toNat - ((v71 : Int32).toInt).toNat) ((v71 : Int32).toInt).toNat 12 (la 20 1 1) (la 20 0 1) = w0 + nT nO (fun q : Nat => ((fa 10 0) (9 * (((fa 2 2) q).toInt).toNat + 4)).toInt64) (fun q : Nat => ((fa 10 0) (9 * (((fa 2 2) q).toInt).toNat + 3)).toInt64) (((n).toInt).toNat - ((k).toInt).toNat) ((k).toInt).toNat 12 (la 20 1 1) (la 20 0 1) ∧ v + nT (nF (la 20 1 0) (la 20 0 0) pt) (fun q : Nat => ((fa 10 0) (9 * (((fa 2 2) q).toInt).toNat + 4)).toInt64) (fun q : Nat => ((fa 10 0) (9 * (((fa 2 2) q).toInt).toNat + 3)).toInt64) (((n).toInt).toNat - ((v71 : Int32).toInt).toNat) ((v71 : Int32).toInt).toNat 12 (la 20 1 1) (la 20 0 1) = f0 + nT (nF (la 20 1 0) (la 20 0 0) pt) (fun q : Nat => ((fa 10 0) (9 * (((fa 2 2) q).toInt).toNat + 4)).toInt64) (fun q : Nat => ((fa 10 0) (9 * (((fa 2 2) q).toInt).toNat + 3)).toInt64) (((n).toInt).toNat - ((k).toInt).toNat) ((k).toInt).toNat 12 (la 20 1 1) (la 20 0 1) from (fun pt w0 f0 hpt h1 h2 => by
                have z11 : (1 : Int32).toNatClampNeg = 1 := (by decide)
                have z10 : (0 : Nat) ≠ (1 : Int32).toNatClampNeg := (by decide)
                have hv9 : (v52 : Int32) = fa 2 2 ((x48_4 : Int32).toInt).toNat := ev52
                have p3 := xr53_3
                have p4 := xr53_4
                rw [z11] at p3 p4
                have k0 := hq49_0 0 (by decide)
                have k1 := hq49_0 1 (by decide)
                have hB : n55 1 = (la 20 0 1) + (fun q : Nat => ((fa 10 0) (9 * (((fa 2 2) q).toInt).toNat + 3)).toInt64) ((x48_4 : Int32).toInt).toNat := by rw [p3, k1.1, hv9]
                have hA : n56 1 = (la 20 1 1) + (fun q : Nat => ((fa 10 0) (9 * (((fa 2 2) q).toInt).toNat + 4)).toInt64) ((x48_4 : Int32).toInt).toNat := by rw [p4, k1.2, hv9]
                have hR : n55 0 = (la 20 0 0) := by rw [xr53_0 0 z10]; exact k0.1
                have hD : n56 0 = (la 20 1 0) := by rw [xr53_1 0 z10]; exact k0.2
                obtain ⟨u, v, hw, hf, q1, q2⟩ := hq49_1 pt w0 f0 hpt h1 h2
                have hs9 : ((v71 : Int32).toInt).toNat = ((x48_4 : Int32).toInt).toNat + 1 := by omega
                have hk9 : ((v58 : Int32).toInt).toNat = ((x48_4 : Int32).toInt).toNat + 1 := by omega
                have hc9 := xr59_1 pt u v hpt hw hf
                rw [hA, hB, hD, hR, hk9] at hc9
                have hr9 : (n.toInt).toNat - ((x48_4 : Int32).toInt).toNat = (n.toInt).toNat - (((x48_4 : Int32).toInt).toNat + 1) + 1 := by omega
                have y1 := Tk_st (m' := 11) hr9 rfl q1
                have y2 := Tk_st (m' := 11) hr9 rfl q2
                rw [hs9]
                exact ⟨_, _, hc9.1, hc9.2, y1, y2⟩)) (by omega) _ _ ls hP hD hS (lv_sub hl [0, 2, 3, 4, 5] rfl)
    exact lp49 13 k (iv 2 6) (iv 2 7) (fa 20 2) (la 20 0) (la 20 1) ⟨by omega, by omega⟩ (hI.2 20 2) (show ∀ j : Nat, j < 2 → (la 20 0) j = (la 20 0) j ∧ (la 20 1) j = (la 20 1) j from (fun j hj => ⟨rfl, rfl⟩)) (show ∀ (pt : Int32) (w0 f0 : Nat), pt.toInt = (iv 2 5).toInt → (iv 2 6).toInt = (oN w0).toInt → (iv 2 7).toInt = (oN f0).toInt → ∃ u v : Nat, ((iv 2 6) : Int32).toInt = (oN u).toInt ∧ ((iv 2 7) : Int32).toInt = (oN v).toInt ∧ u + nT nO (fun q : Nat => ((fa 10 0) (9 * (((fa 2 2) q).toInt).toNat + 4)).toInt64) (fun q : Nat => ((fa 10 0) (9 * (((fa 2 2) q).toInt).toNat + 3)).toInt64) (((n).toInt).toNat - ((k : Int32).toInt).toNat) ((k : Int32).toInt).toNat 12 (la 20 1 1) (la 20 0 1) = w0 + nT nO (fun q : Nat => ((fa 10 0) (9 * (((fa 2 2) q).toInt).toNat + 4)).toInt64) (fun q : Nat => ((fa 10 0) (9 * (((fa 2 2) q).toInt).toNat + 3)).toInt64) (((n).toInt).toNat - ((k).toInt).toNat) ((k).toInt).toNat 12 (la 20 1 1) (la 20 0 1) ∧ v + nT (nF (la 20 1 0) (la 20 0 0) pt) (fun q : Nat => ((fa 10 0) (9 * (((fa 2 2) q).toInt).toNat + 4)).toInt64) (fun q : Nat => ((fa 10 0) (9 * (((fa 2 2) q).toInt).toNat + 3)).toInt64) (((n).toInt).toNat - ((k : Int32).toInt).toNat) ((k : Int32).toInt).toNat 12 (la 20 1 1) (la 20 0 1) = f0 + nT (nF (la 20 1 0) (la 20 0 0) pt) (fun q : Nat => ((fa 10 0) (9 * (((fa 2 2) q).toInt).toNat + 4)).toInt64) (fun q : Nat => ((fa 10 0) (9 * (((fa 2 2) q).toInt).toNat + 3)).toInt64) (((n).toInt).toNat - ((k).toInt).toNat) ((k).toInt).toNat 12 (la 20 1 1) (la 20 0 1) from (fun pt w0 f0 hpt h1 h2 => ⟨w0, f0, h1, h2, rfl, rfl⟩)) (by first | decide | omega) _ _ ls hP hD hS (lv_sub hl [0, 1, 2, 3, 4] rfl)
  · exact absurd c1 (by decide)
