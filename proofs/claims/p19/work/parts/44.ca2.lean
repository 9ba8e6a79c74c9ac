/-! ===== ca2 ===== -/
set_option maxHeartbeats 4000000 in
set_option maxRecDepth 100000 in
/-- X2_gatherWithout -/
theorem c_X2_gatherWithout_w5 (l : Launch) (dC : Nat → ClassId) (dI : Nat → Nat → Nat) (sz : Nat) (h : Nat) (g : Nat → Nat → Nat) (ca : Nat → Nat → ClassId) (iv : Nat → Nat → Int32) (lv : Nat → Nat → Int64) (fa : Nat → Nat → Nat → Int32) (la : Nat → Nat → Nat → Int64) (hI : IX iv fa) (b : Int32) : Met l yX2_gatherWithout (wc yX2_gatherWithout cX2_gatherWithout 6 (some .int)) ({ frames := 3, cells := 0, slots := 0, locals := 66 } : Room) (pW (dC, dI) classes (WX h g ca iv lv fa la) (TX ca) sz [.ref (g 11 6), .int 5, .int b]) (va_Qi (fun r (u : SS) => ∃ (na_20_2 : Nat → Int32) (nb_20_0 : Nat → Int64) (nb_20_1 : Nat → Int64), (∀ l : Nat, l < 2 → nb_20_0 l = caL (cxP (fa 10 0) (iv 2 3).toInt (iv 2 4).toInt (l : Int)) (fun s : Nat => ((fa 10 0) (9 * s + 5)).toInt = b.toInt) (fun s : Nat => (fa 10 0) (9 * s + 3)) ((iv 10 1).toInt).toNat ∧ nb_20_1 l = caL (cxP (fa 10 0) (iv 2 3).toInt (iv 2 4).toInt (l : Int)) (fun s : Nat => ((fa 10 0) (9 * s + 5)).toInt = b.toInt) (fun s : Nat => (fa 10 0) (9 * s + 4)) ((iv 10 1).toInt).toNat ∧ na_20_2 l = caC (cxP (fa 10 0) (iv 2 3).toInt (iv 2 4).toInt (l : Int)) (fun s : Nat => ((fa 10 0) (9 * s + 5)).toInt = b.toInt) ((iv 10 1).toInt).toNat) ∧ (r.toInt = (smC (fun s : Nat => ((cxP (fa 10 0) (iv 2 3).toInt (iv 2 4).toInt 0) s ∨ (cxP (fa 10 0) (iv 2 3).toInt (iv 2 4).toInt 1) s) ∧ (fun s : Nat => ((fa 10 0) (9 * s + 5)).toInt = b.toInt) s) ((iv 10 1).toInt).toNat).toInt) ∧ (0 ≤ r.toInt ∧ r.toInt ≤ 60) ∧ u = (iv, lv, (u2 fa 20 2 na_20_2), (u2 (u2 la 20 0 nb_20_0) 20 1 nb_20_1))) (bX (dC, dI) h g ca (va_A (WX h g ca iv lv fa la) sz)) (va_A (WX h g ca iv lv fa la) sz)) 0 0 (va_A (WX h g ca iv lv fa la) sz) := by
  refine Met.ofW (cc := cX2_gatherWithout) (maxL := 6) (ret := (some .int)) (by decide) rfl ?_
  intro p e s m args below meth c s₁ B hml hv
  obtain ⟨rfl, hsz, hP, hK, hD0⟩ := hv
  have hx := B.exec
  have hb := B.bytes
  have hr := B.returns
  have ht := tb_tl (atoms_spec (ws := wc yX2_gatherWithout cX2_gatherWithout 6 (some .int)) B.pre)
  have hown : s.vm.findClass RX2 = some m.cls := findClass_of_methodNamed B.named
  have hlocks := B.notSynchronized
  subst hsz
  have hD := hD0.self (sz := s.heap.size)
  generalize hAe : va_A (WX h g ca iv lv fa la) s.heap.size = A at hD ⊢
  have hA : ∀ q : Nat, s.heap.size ≤ q → A q := fun q h => by rw [← hAe]; exact Or.inr h
  have hS : va_S A s.heap s.heap [] := va_S.rf
  have hl := lv_entry [.ref (g 11 6), .int 5, .int b] (n := 6) (Nat.le_of_ble_eq_true rfl)
  rw [lg_entry_eq]
  generalize (lg_sl [.ref (g 11 6), .int 5, .int b] ++ List.replicate (6 - (lg_sl [.ref (g 11 6), .int 5, .int b]).length) Slot.unset).toArray = ls at hl ⊢
  have hl : lv_has ls 6 [(0, .ref (g 11 6)), (1, .int 5), (2, .int b)] := hl
  refine lv_aload_n hx hb dX2_gatherWithout_0 rfl (lv_at hl 0 rfl) ?_
  refine gX_2_1 hx hb ht hown hK hP m_305 dX2_gatherWithout_1 ?_
  have hFc := free_all hD hS hA
  refine va_callv (va_runV (As := []) (rest := []) ⟨hx, hb, hml, hown, ht⟩ (c_X7_clear_s20 l dC dI s.heap.size h g ca iv lv fa la hI) (kV 0 ht m_882 m_569 m_570 m_84 m_571 rfl rfl hd_X7_clear_v ⟨Nat.le_of_ble_eq_true rfl, Nat.le_of_ble_eq_true rfl⟩) (vW hP hK hD (rX_20 hK hP)) rfl rfl hl.1 rfl (lv_room (Nat.le_of_ble_eq_true rfl)) dX2_gatherWithout_4 ⟨Nat.le_of_ble_eq_true rfl, Nat.le_of_ble_eq_true rfl⟩) hS (fun q _ h => hFc q h) hFc (fun u t H1 locs ht9 hvm hr1 hB hz1 hk1 hS => ?_)
  obtain ⟨n2, n3, n4, xr1_0, rfl⟩ := hr1
  have hn2 : ∀ j, inb (bA 20 2 j) (n2 j) := fun j => full_i _
  obtain ⟨hP, hD⟩ := hB
  rw [ht9] at hP
  generalize H1 = H at hP hS ⊢
  have hP : va_P (dC, dI) classes (WX h g ca iv lv (u2 fa 20 2 n2) (u2 (u2 la 20 0 n3) 20 1 n4)) H := hP
  have hD : va_D A (WX h g ca iv lv (u2 fa 20 2 n2) (u2 (u2 la 20 0 n3) 20 1 n4)) := (show va_D _ (WX h g ca iv lv (u2 fa 20 2 n2) (u2 (u2 la 20 0 n3) 20 1 n4)) from hD).weaken (fun _ _ _ h => hFc _ h)
  have xr1_0 : ∀ j : Nat, j < 3 → n3 j = 0 ∧ n4 j = 0 ∧ n2 j = 0 := xr1_0
  refine lv_iconst (v := 0) hx hb dX2_gatherWithout_7 (by decide) ?_
  refine lv_istore_n (lv' := [(3, .int 0), (0, .ref (g 11 6)), (1, .int 5), (2, .int b)]) hx hb dX2_gatherWithout_8 rfl hl (by decide) rfl (fun ls hl => ?_)
  refine lv_iconst (v := 0) hx hb dX2_gatherWithout_9 (by decide) ?_
  refine lv_istore (lv' := [(4, .int 0), (3, .int 0), (0, .ref (g 11 6)), (1, .int 5), (2, .int b)]) hx hb dX2_gatherWithout_10 hl (by decide) rfl (fun ls hl => ?_)
  have i_10_1 : 0 ≤ (iv 10 1).toInt ∧ (iv 10 1).toInt ≤ 60 := hI.1 10 1
  have lp358 : ∀ (nn358 : Nat) (x357_4 : Int32) (x357_3 : Int32) (w357_a_20_2 : Nat → Int32) (w357_b_20_0 : Nat → Int64) (w357_b_20_1 : Nat → Int64), 0 ≤ x357_4.toInt ∧ x357_4.toInt ≤ 60 → 0 ≤ x357_3.toInt ∧ x357_3.toInt ≤ 60 → (∀ j, inb (bA 20 2 j) (w357_a_20_2 j)) → (∀ l : Nat, l < 2 → w357_b_20_0 l = caL (cxP (fa 10 0) (iv 2 3).toInt (iv 2 4).toInt (l : Int)) (fun s : Nat => ((fa 10 0) (9 * s + 5)).toInt = (b).toInt) (fun s : Nat => (fa 10 0) (9 * s + 3)) ((x357_4 : Int32).toInt).toNat ∧ w357_b_20_1 l = caL (cxP (fa 10 0) (iv 2 3).toInt (iv 2 4).toInt (l : Int)) (fun s : Nat => ((fa 10 0) (9 * s + 5)).toInt = (b).toInt) (fun s : Nat => (fa 10 0) (9 * s + 4)) ((x357_4 : Int32).toInt).toNat ∧ w357_a_20_2 l = caC (cxP (fa 10 0) (iv 2 3).toInt (iv 2 4).toInt (l : Int)) (fun s : Nat => ((fa 10 0) (9 * s + 5)).toInt = (b).toInt) ((x357_4 : Int32).toInt).toNat) → ((x357_3 : Int32).toInt = (smC (fun s : Nat => ((cxP (fa 10 0) (iv 2 3).toInt (iv 2 4).toInt 0) s ∨ (cxP (fa 10 0) (iv 2 3).toInt (iv 2 4).toInt 1) s) ∧ (fun s : Nat => ((fa 10 0) (9 * s + 5)).toInt = (b).toInt) s) ((x357_4 : Int32).toInt).toNat).toInt) → (x357_4 : Int32).toInt ≤ ((iv 10 1) : Int32).toInt → (x357_3 : Int32).toInt ≤ (x357_4 : Int32).toInt → 60 - x357_4.toInt < (nn358 : Int) → ∀ (H : Heap) (locs : List Loc), ∀ (ls : Array Slot), va_P (dC, dI) classes (WX h g ca iv lv (u2 fa 20 2 w357_a_20_2) (u2 (u2 la 20 0 w357_b_20_0) 20 1 w357_b_20_1)) H → va_D A (WX h g ca iv lv (u2 fa 20 2 w357_a_20_2) (u2 (u2 la 20 0 w357_b_20_0) 20 1 w357_b_20_1)) → va_S A s.heap H locs → lv_has ls 6 [(4, .int x357_4), (3, .int x357_3), (0, .ref (g 11 6)), (1, .int 5), (2, .int b)] → W p l e ({ frames := 3, cells := 0, slots := 0, locals := 66 } : Room) s m ([.ref (g 11 6), .int 5, .int b] : List Value).toArray below meth c H locs 0 0 (MQ below (va_Qi (fun r (u : SS) => ∃ (na_20_2 : Nat → Int32) (nb_20_0 : Nat → Int64) (nb_20_1 : Nat → Int64), (∀ l : Nat, l < 2 → nb_20_0 l = caL (cxP (fa 10 0) (iv 2 3).toInt (iv 2 4).toInt (l : Int)) (fun s : Nat => ((fa 10 0) (9 * s + 5)).toInt = b.toInt) (fun s : Nat => (fa 10 0) (9 * s + 3)) ((iv 10 1).toInt).toNat ∧ nb_20_1 l = caL (cxP (fa 10 0) (iv 2 3).toInt (iv 2 4).toInt (l : Int)) (fun s : Nat => ((fa 10 0) (9 * s + 5)).toInt = b.toInt) (fun s : Nat => (fa 10 0) (9 * s + 4)) ((iv 10 1).toInt).toNat ∧ na_20_2 l = caC (cxP (fa 10 0) (iv 2 3).toInt (iv 2 4).toInt (l : Int)) (fun s : Nat => ((fa 10 0) (9 * s + 5)).toInt = b.toInt) ((iv 10 1).toInt).toNat) ∧ (r.toInt = (smC (fun s : Nat => ((cxP (fa 10 0) (iv 2 3).toInt (iv 2 4).toInt 0) s ∨ (cxP (fa 10 0) (iv 2 3).toInt (iv 2 4).toInt 1) s) ∧ (fun s : Nat => ((fa 10 0) (9 * s + 5)).toInt = b.toInt) s) ((iv 10 1).toInt).toNat).toInt) ∧ (0 ≤ r.toInt ∧ r.toInt ≤ 60) ∧ u = (iv, lv, (u2 fa 20 2 na_20_2), (u2 (u2 la 20 0 nb_20_0) 20 1 nb_20_1))) (bX (dC, dI) h g ca A) A) ([.ref (g 11 6), .int 5, .int b] : List Value).toArray s 0 0 A) (F0 m 12 ls []) := by
    intro nn358
    induction nn358 with
    | zero => intro x357_4 x357_3 w357_a_20_2 w357_b_20_0 w357_b_20_1 hx357_4 hx357_3 hw357_a_20_2 hq358_0 hq358_1 hq358_2 hq358_3 hm358; exfalso; omega
    | succ nn358 ih358 =>
      intro x357_4 x357_3 w357_a_20_2 w357_b_20_0 w357_b_20_1 hx357_4 hx357_3 hw357_a_20_2 hq358_0 hq358_1 hq358_2 hq358_3 hm358 H locs ls hP hD hS hl
      refine lv_iload hx hb dX2_gatherWithout_12 (lv_at hl 0 rfl) ?_
      refine lv_aload_n hx hb dX2_gatherWithout_14 rfl (lv_at hl 2 rfl) ?_
      refine gX_2_0 hx hb ht hown hK hP m_304 dX2_gatherWithout_15 ?_
      refine gX_10_1 hx hb ht hown hK hP m_115 (v := (iv 10 1)) rfl dX2_gatherWithout_18 ?_
      refine lv_icmp_ge (tgt := 93) hx hb dX2_gatherWithout_21 (by decide) (fun c359 => ?_) (fun c359 => ?_)
      · have fc359 := z_le (rfl : ((iv 10 1)).toInt = _) (rfl : (x357_4).toInt = _) c359
        refine lv_iload_n hx hb dX2_gatherWithout_93 rfl (lv_at hl 1 rfl) ?_
        have hP9 : va_P (dC, dI) classes (WX h g ca iv lv (u2 fa 20 2 w357_a_20_2) (u2 (u2 la 20 0 w357_b_20_0) 20 1 w357_b_20_1)) H := hP
        have hD9 : va_D A (WX h g ca iv lv (u2 fa 20 2 w357_a_20_2) (u2 (u2 la 20 0 w357_b_20_0) 20 1 w357_b_20_1)) := hD
        exact W.iret (v := x357_3) hx hb hr (fun t ht9 hW => ⟨⟨x357_3, (iv, lv, (u2 fa 20 2 w357_a_20_2), (u2 (u2 la 20 0 w357_b_20_0) 20 1 w357_b_20_1)), rfl, ⟨w357_a_20_2, w357_b_20_0, w357_b_20_1, (show ∀ l : Nat, l < 2 → w357_b_20_0 l = caL (cxP (fa 10 0) (iv 2 3).toInt (iv 2 4).toInt (l : Int)) (fun s : Nat => ((fa 10 0) (9 * s + 5)).toInt = (b).toInt) (fun s : Nat => (fa 10 0) (9 * s + 3)) ((iv 10 1).toInt).toNat ∧ w357_b_20_1 l = caL (cxP (fa 10 0) (iv 2 3).toInt (iv 2 4).toInt (l : Int)) (fun s : Nat => ((fa 10 0) (9 * s + 5)).toInt = (b).toInt) (fun s : Nat => (fa 10 0) (9 * s + 4)) ((iv 10 1).toInt).toNat ∧ w357_a_20_2 l = caC (cxP (fa 10 0) (iv 2 3).toInt (iv 2 4).toInt (l : Int)) (fun s : Nat => ((fa 10 0) (9 * s + 5)).toInt = (b).toInt) ((iv 10 1).toInt).toNat from (by have hq9 := hq358_0; have he9 : (x357_4 : Int32).toInt = (iv 10 1).toInt := (by omega); rw [he9] at hq9; exact hq9)), (show (x357_3 : Int32).toInt = (smC (fun s : Nat => ((cxP (fa 10 0) (iv 2 3).toInt (iv 2 4).toInt 0) s ∨ (cxP (fa 10 0) (iv 2 3).toInt (iv 2 4).toInt 1) s) ∧ (fun s : Nat => ((fa 10 0) (9 * s + 5)).toInt = (b).toInt) s) ((iv 10 1).toInt).toNat).toInt from (by have hq9 := hq358_1; have he9 : (x357_4 : Int32).toInt = (iv 10 1).toInt := (by omega); rw [he9] at hq9; exact hq9)), ⟨by omega, by omega⟩, rfl⟩, by rw [ht9]; exact hP9, hD9⟩, hS.F ht9⟩) hS.2.2 dX2_gatherWithout_94
      · have fc359 := z_nle (rfl : ((iv 10 1)).toInt = _) (rfl : (x357_4).toInt = _) c359
        refine lv_aload_n hx hb dX2_gatherWithout_24 rfl (lv_at hl 2 rfl) ?_
        refine lv_iload hx hb dX2_gatherWithout_25 (lv_at hl 0 rfl) ?_
        refine vp_callSi (W.runV (As := [.int x357_4]) (rest := []) ⟨hx, hb, hml, hown, ht⟩ (c_X2_isInDoubt_w l dC dI h g ca iv lv (u2 fa 20 2 w357_a_20_2) (u2 (u2 la 20 0 w357_b_20_0) 20 1 w357_b_20_1) (IX_a (c := 20) (k := 2) hI hw357_a_20_2) x357_4 ⟨by omega, by omega⟩) (kV 1 ht m_883 m_885 m_32 m_85 m_886 rfl rfl hd_X2_isInDoubt_v ⟨Nat.le_of_ble_eq_true rfl, Nat.le_of_ble_eq_true rfl⟩) (vR hP hK (rX_2 hK hP)) rfl rfl hl.1 rfl (lv_room (Nat.le_of_ble_eq_true rfl)) dX2_gatherWithout_27 ⟨Nat.le_of_ble_eq_true rfl, Nat.le_of_ble_eq_true rfl⟩) (fun r360 hr360 => ?_)
        obtain ⟨hr360, xr360_0⟩ := hr360
        have xr360_0 : (((r360 : Int32).toInt = 1 ∧ ((((fa 10 0) (9 * ((x357_4 : Int32).toInt).toNat + 0)).toInt = ((iv 2 3) : Int32).toInt ∧ ((fa 10 0) (9 * ((x357_4 : Int32).toInt).toNat + 1)).toInt = 0 ∧ ((fa 10 0) (9 * ((x357_4 : Int32).toInt).toNat + 7)).toInt ≤ ((iv 2 4) : Int32).toInt ∧ (((fa 10 0) (9 * ((x357_4 : Int32).toInt).toNat + 8)).toInt = -1 ∨ ((iv 2 4) : Int32).toInt < ((fa 10 0) (9 * ((x357_4 : Int32).toInt).toNat + 8)).toInt)) ∨ (((fa 10 0) (9 * ((x357_4 : Int32).toInt).toNat + 0)).toInt = ((iv 2 3) : Int32).toInt ∧ ((fa 10 0) (9 * ((x357_4 : Int32).toInt).toNat + 1)).toInt = 1 ∧ ((fa 10 0) (9 * ((x357_4 : Int32).toInt).toNat + 7)).toInt ≤ ((iv 2 4) : Int32).toInt ∧ (((fa 10 0) (9 * ((x357_4 : Int32).toInt).toNat + 8)).toInt = -1 ∨ ((iv 2 4) : Int32).toInt < ((fa 10 0) (9 * ((x357_4 : Int32).toInt).toNat + 8)).toInt)))) ∨ ((r360 : Int32).toInt = 0 ∧ ¬ ((((fa 10 0) (9 * ((x357_4 : Int32).toInt).toNat + 0)).toInt = ((iv 2 3) : Int32).toInt ∧ ((fa 10 0) (9 * ((x357_4 : Int32).toInt).toNat + 1)).toInt = 0 ∧ ((fa 10 0) (9 * ((x357_4 : Int32).toInt).toNat + 7)).toInt ≤ ((iv 2 4) : Int32).toInt ∧ (((fa 10 0) (9 * ((x357_4 : Int32).toInt).toNat + 8)).toInt = -1 ∨ ((iv 2 4) : Int32).toInt < ((fa 10 0) (9 * ((x357_4 : Int32).toInt).toNat + 8)).toInt)) ∨ (((fa 10 0) (9 * ((x357_4 : Int32).toInt).toNat + 0)).toInt = ((iv 2 3) : Int32).toInt ∧ ((fa 10 0) (9 * ((x357_4 : Int32).toInt).toNat + 1)).toInt = 1 ∧ ((fa 10 0) (9 * ((x357_4 : Int32).toInt).toNat + 7)).toInt ≤ ((iv 2 4) : Int32).toInt ∧ (((fa 10 0) (9 * ((x357_4 : Int32).toInt).toNat + 8)).toInt = -1 ∨ ((iv 2 4) : Int32).toInt < ((fa 10 0) (9 * ((x357_4 : Int32).toInt).toNat + 8)).toInt))))) := xr360_0
        refine lv_if_ne (tgt := 36) hx hb dX2_gatherWithout_30 (by decide) (fun c361 => ?_) (fun c361 => ?_)
        · have fc361 := z_ne (rfl : (r360).toInt = _) (by decide : (0 : Int32).toInt = 0) c361
          refine lv_iload_n hx hb dX2_gatherWithout_36 rfl (lv_at hl 3 rfl) ?_
          refine lv_bipush (v := 9) hx hb dX2_gatherWithout_37 (by decide) ?_
          refine lv_icmp_ne (tgt := 47) hx hb dX2_gatherWithout_39 (by decide) (fun c362 => ?_) (fun c362 => ?_)
          · skip
            refine lv_aload_n hx hb dX2_gatherWithout_47 rfl (lv_at hl 2 rfl) ?_
            refine gX_2_0 hx hb ht hown hK hP m_304 dX2_gatherWithout_48 ?_
            refine lv_iload hx hb dX2_gatherWithout_51 (lv_at hl 0 rfl) ?_
            refine lv_iload_n hx hb dX2_gatherWithout_53 rfl (lv_at hl 3 rfl) ?_
            refine vp_callSi (W.runV (As := [.int x357_4, .int 5]) (rest := []) ⟨hx, hb, hml, hown, ht⟩ (c_X10_get_x5 l dC dI h g ca iv lv (u2 fa 20 2 w357_a_20_2) (u2 (u2 la 20 0 w357_b_20_0) 20 1 w357_b_20_1) (IX_a (c := 20) (k := 2) hI hw357_a_20_2) x357_4 ⟨by omega, by omega⟩) (kV 2 ht m_889 m_486 m_487 m_78 m_488 rfl rfl hd_X10_get_v ⟨Nat.le_of_ble_eq_true rfl, Nat.le_of_ble_eq_true rfl⟩) (vR hP hK (rX_10 hK hP)) rfl rfl hl.1 rfl (lv_room (Nat.le_of_ble_eq_true rfl)) dX2_gatherWithout_54 ⟨Nat.le_of_ble_eq_true rfl, Nat.le_of_ble_eq_true rfl⟩) (fun r363 hr363 => ?_)
            obtain ⟨hr363, xr363_0⟩ := hr363
            have xr363_0 : (r363 : Int32).toInt = ((fa 10 0) (9 * ((x357_4 : Int32).toInt).toNat + 5)).toInt := xr363_0
            refine lv_istore (lv' := [(5, .int r363), (4, .int x357_4), (3, .int x357_3), (0, .ref (g 11 6)), (1, .int 5), (2, .int b)]) hx hb dX2_gatherWithout_57 hl (by decide) rfl (fun ls hl => ?_)
            refine lv_iload hx hb dX2_gatherWithout_59 (lv_at hl 0 rfl) ?_
            refine lv_iload_n hx hb dX2_gatherWithout_61 rfl (lv_at hl 5 rfl) ?_
            refine lv_icmp_ne (tgt := 71) hx hb dX2_gatherWithout_62 (by decide) (fun c364 => ?_) (fun c364 => ?_)
            · have fc364 := z_ne (rfl : (r363).toInt = _) (rfl : (b).toInt = _) c364
              refine lv_aload_n hx hb dX2_gatherWithout_71 rfl (lv_at hl 3 rfl) ?_
              refine lv_aload_n hx hb dX2_gatherWithout_72 rfl (lv_at hl 3 rfl) ?_
              refine gX_2_0 hx hb ht hown hK hP m_304 dX2_gatherWithout_73 ?_
              refine lv_iload hx hb dX2_gatherWithout_76 (lv_at hl 1 rfl) ?_
              refine lv_iconst (v := 1) hx hb dX2_gatherWithout_78 (by decide) ?_
              refine vp_callSi (W.runV (As := [.int x357_4, .int 1]) (rest := [.ref (g 11 6)]) ⟨hx, hb, hml, hown, ht⟩ (c_X10_get_x1 l dC dI h g ca iv lv (u2 fa 20 2 w357_a_20_2) (u2 (u2 la 20 0 w357_b_20_0) 20 1 w357_b_20_1) (IX_a (c := 20) (k := 2) hI hw357_a_20_2) x357_4 ⟨by omega, by omega⟩) (kV 2 ht m_889 m_486 m_487 m_78 m_488 rfl rfl hd_X10_get_v ⟨Nat.le_of_ble_eq_true rfl, Nat.le_of_ble_eq_true rfl⟩) (vR hP hK (rX_10 hK hP)) rfl rfl hl.1 rfl (lv_room (Nat.le_of_ble_eq_true rfl)) dX2_gatherWithout_79 ⟨Nat.le_of_ble_eq_true rfl, Nat.le_of_ble_eq_true rfl⟩) (fun r365 hr365 => ?_)
              obtain ⟨hr365, xr365_0⟩ := hr365
              have xr365_0 : (r365 : Int32).toInt = ((fa 10 0) (9 * ((x357_4 : Int32).toInt).toNat + 1)).toInt := xr365_0
              refine lv_iload hx hb dX2_gatherWithout_82 (lv_at hl 1 rfl) ?_
              have hFc := free_all hD hS hA
              refine va_callv (va_runV (As := [.int r365, .int x357_4]) (rest := []) ⟨hx, hb, hml, hown, ht⟩ (c_X2_heap_w l dC dI H.size h g ca iv lv (u2 fa 20 2 w357_a_20_2) (u2 (u2 la 20 0 w357_b_20_0) 20 1 w357_b_20_1) (IX_a (c := 20) (k := 2) hI hw357_a_20_2) r365 x357_4 ⟨by omega, by omega⟩ ⟨by omega, by omega⟩) (kV 2 ht m_890 m_892 m_33 m_85 m_893 rfl rfl hd_X2_heap_v ⟨Nat.le_of_ble_eq_true rfl, Nat.le_of_ble_eq_true rfl⟩) (vW hP hK hD (rX_2 hK hP)) rfl rfl hl.1 rfl (lv_room (Nat.le_of_ble_eq_true rfl)) dX2_gatherWithout_84 ⟨Nat.le_of_ble_eq_true rfl, Nat.le_of_ble_eq_true rfl⟩) hS (fun q _ h => hFc q h) hFc (fun u t H1 locs ht9 hvm hr366 hB hz1 hk1 hS => ?_)
              obtain ⟨n367, n368, n369, xr366_0, xr366_1, xr366_2, xr366_3, xr366_4, xr366_5, rfl⟩ := hr366
              have hn367 : ∀ j, inb (bA 20 2 j) (n367 j) := fun j => full_i _
              obtain ⟨hP, hD⟩ := hB
              rw [ht9] at hP
              generalize H1 = H at hP hS ⊢
              have hP : va_P (dC, dI) classes (WX h g ca iv lv (u2 fa 20 2 n367) (u2 (u2 la 20 0 n368) 20 1 n369)) H := hP
              have hD : va_D A (WX h g ca iv lv (u2 fa 20 2 n367) (u2 (u2 la 20 0 n368) 20 1 n369)) := (show va_D _ (WX h g ca iv lv (u2 fa 20 2 n367) (u2 (u2 la 20 0 n368) 20 1 n369)) from hD).weaken (fun _ _ _ h => hFc _ h)
              have xr366_0 : ∀ j : Nat, j ≠ (r365 : Int32).toNatClampNeg → n368 j = w357_b_20_0 j := xr366_0
              have xr366_1 : ∀ j : Nat, j ≠ (r365 : Int32).toNatClampNeg → n369 j = w357_b_20_1 j := xr366_1
              have xr366_2 : ∀ j : Nat, j ≠ (r365 : Int32).toNatClampNeg → n367 j = w357_a_20_2 j := xr366_2
              have xr366_3 : n368 (r365 : Int32).toNatClampNeg = w357_b_20_0 (r365 : Int32).toNatClampNeg + ((fa 10 0) (9 * ((x357_4 : Int32).toInt).toNat + 3)).toInt64 := xr366_3
              have xr366_4 : n369 (r365 : Int32).toNatClampNeg = w357_b_20_1 (r365 : Int32).toNatClampNeg + ((fa 10 0) (9 * ((x357_4 : Int32).toInt).toNat + 4)).toInt64 := xr366_4
              have xr366_5 : n367 (r365 : Int32).toNatClampNeg = w357_a_20_2 (r365 : Int32).toNatClampNeg + 1 := xr366_5
              obtain ⟨v370, ev370⟩ : ∃ y : Int32, y = x357_4 + 1 := ⟨_, rfl⟩
              have tv370 := z_add ev370 rfl (by decide : (1 : Int32).toInt = 1) (by omega) (by omega)
              refine lv_iinc (v := v370) (lv' := [(4, .int v370), (5, .int r363), (3, .int x357_3), (0, .ref (g 11 6)), (1, .int 5), (2, .int b)]) hx hb dX2_gatherWithout_87 hl (k := 1) rfl (by rw [ev370]; rfl) (by decide) rfl (fun ls hl => ?_)
              refine lv_goto (tgt := 12) hx hb dX2_gatherWithout_90 (by decide) ?_
              exact ih358 v370 x357_3 n367 n368 n369 ⟨by omega, by omega⟩ ⟨by omega, by omega⟩ hn367 (show ∀ l : Nat, l < 2 → n368 l = caL (cxP (fa 10 0) (iv 2 3).toInt (iv 2 4).toInt (l : Int)) (fun s : Nat => ((fa 10 0) (9 * s + 5)).toInt = (b).toInt) (fun s : Nat => (fa 10 0) (9 * s + 3)) ((v370 : Int32).toInt).toNat ∧ n369 l = caL (cxP (fa 10 0) (iv 2 3).toInt (iv 2 4).toInt (l : Int)) (fun s : Nat => ((fa 10 0) (9 * s + 5)).toInt = (b).toInt) (fun s : Nat => (fa 10 0) (9 * s + 4)) ((v370 : Int32).toInt).toNat ∧ n367 l = caC (cxP (fa 10 0) (iv 2 3).toInt (iv 2 4).toInt (l : Int)) (fun s : Nat => ((fa 10 0) (9 * s + 5)).toInt = (b).toInt) ((v370 : Int32).toInt).toNat from (fun l hl => by
                    have hs9 : ((v370 : Int32).toInt).toNat = ((x357_4 : Int32).toInt).toNat + 1 := by omega
                    have hq9 := hq358_0 l hl
                    have hy9 := xr360_0
                    have hg9 := xr363_0
                    have hk9 := xr365_0
                    by_cases hl2 : l = (r365 : Int32).toNatClampNeg
                    · have hl3 : (l : Int) = (r365 : Int32).toInt := by rw [hl2]; show ((((r365 : Int32).toInt).toNat : Nat) : Int) = _; omega
                      have hc : (((fa 10 0 (9 * ((x357_4 : Int32).toInt).toNat + 0)).toInt = (iv 2 3).toInt ∧ (fa 10 0 (9 * ((x357_4 : Int32).toInt).toNat + 1)).toInt = (l : Int) ∧ (fa 10 0 (9 * ((x357_4 : Int32).toInt).toNat + 7)).toInt ≤ (iv 2 4).toInt ∧ ((fa 10 0 (9 * ((x357_4 : Int32).toInt).toNat + 8)).toInt = -1 ∨ (iv 2 4).toInt < (fa 10 0 (9 * ((x357_4 : Int32).toInt).toNat + 8)).toInt)) ∧ ¬ ((fa 10 0 (9 * ((x357_4 : Int32).toInt).toNat + 5)).toInt = b.toInt)) := ⟨⟨by omega, by omega, by omega, by omega⟩, by omega⟩
                      rw [caL_y hs9 hc, caL_y hs9 hc, caC_y hs9 hc, ← hq9.1, ← hq9.2.1, ← hq9.2.2, hl2, xr366_3, xr366_4, xr366_5]
                      exact ⟨rfl, rfl, rfl⟩
                    · have hc : ¬ (((fa 10 0 (9 * ((x357_4 : Int32).toInt).toNat + 0)).toInt = (iv 2 3).toInt ∧ (fa 10 0 (9 * ((x357_4 : Int32).toInt).toNat + 1)).toInt = (l : Int) ∧ (fa 10 0 (9 * ((x357_4 : Int32).toInt).toNat + 7)).toInt ≤ (iv 2 4).toInt ∧ ((fa 10 0 (9 * ((x357_4 : Int32).toInt).toNat + 8)).toInt = -1 ∨ (iv 2 4).toInt < (fa 10 0 (9 * ((x357_4 : Int32).toInt).toNat + 8)).toInt)) ∧ ¬ ((fa 10 0 (9 * ((x357_4 : Int32).toInt).toNat + 5)).toInt = b.toInt)) := fun z => hl2 (by have z1 := z.1.2.1; show l = ((r365 : Int32).toInt).toNat; omega)
                      rw [caL_n hs9 hc, caL_n hs9 hc, caC_n hs9 hc, xr366_0 l hl2, xr366_1 l hl2, xr366_2 l hl2]
                      exact hq9)) (show (x357_3 : Int32).toInt = (smC (fun s : Nat => ((cxP (fa 10 0) (iv 2 3).toInt (iv 2 4).toInt 0) s ∨ (cxP (fa 10 0) (iv 2 3).toInt (iv 2 4).toInt 1) s) ∧ (fun s : Nat => ((fa 10 0) (9 * s + 5)).toInt = (b).toInt) s) ((v370 : Int32).toInt).toNat).toInt from (by
                    have hs9 : ((v370 : Int32).toInt).toNat = ((x357_4 : Int32).toInt).toNat + 1 := by omega
                    have hy9 := xr360_0
                    have hg9 := xr363_0
                    have hc : ¬ ((((fa 10 0 (9 * ((x357_4 : Int32).toInt).toNat + 0)).toInt = (iv 2 3).toInt ∧ (fa 10 0 (9 * ((x357_4 : Int32).toInt).toNat + 1)).toInt = 0 ∧ (fa 10 0 (9 * ((x357_4 : Int32).toInt).toNat + 7)).toInt ≤ (iv 2 4).toInt ∧ ((fa 10 0 (9 * ((x357_4 : Int32).toInt).toNat + 8)).toInt = -1 ∨ (iv 2 4).toInt < (fa 10 0 (9 * ((x357_4 : Int32).toInt).toNat + 8)).toInt)) ∨ ((fa 10 0 (9 * ((x357_4 : Int32).toInt).toNat + 0)).toInt = (iv 2 3).toInt ∧ (fa 10 0 (9 * ((x357_4 : Int32).toInt).toNat + 1)).toInt = 1 ∧ (fa 10 0 (9 * ((x357_4 : Int32).toInt).toNat + 7)).toInt ≤ (iv 2 4).toInt ∧ ((fa 10 0 (9 * ((x357_4 : Int32).toInt).toNat + 8)).toInt = -1 ∨ (iv 2 4).toInt < (fa 10 0 (9 * ((x357_4 : Int32).toInt).toNat + 8)).toInt))) ∧ (fa 10 0 (9 * ((x357_4 : Int32).toInt).toNat + 5)).toInt = b.toInt) := by omega
                    rw [smC_n hs9 hc]; exact hq358_1)) (show (v370 : Int32).toInt ≤ ((iv 10 1) : Int32).toInt from by omega) (show (x357_3 : Int32).toInt ≤ (v370 : Int32).toInt from by omega) (by omega) _ _ ls hP hD hS (lv_sub hl [0, 2, 3, 4, 5] rfl)
            · have fc364 := z_eq (rfl : (r363).toInt = _) (rfl : (b).toInt = _) c364
              have : 0 ≤ (x357_3 : Int32).toInt ∧ (x357_3 : Int32).toInt ≤ 59 := ⟨by omega, by omega⟩
              obtain ⟨v371, ev371⟩ : ∃ y : Int32, y = x357_3 + 1 := ⟨_, rfl⟩
              have tv371 := z_add ev371 rfl (by decide : (1 : Int32).toInt = 1) (by omega) (by omega)
              refine lv_iinc (v := v371) (lv' := [(3, .int v371), (5, .int r363), (4, .int x357_4), (0, .ref (g 11 6)), (1, .int 5), (2, .int b)]) hx hb dX2_gatherWithout_65 hl (k := 2) rfl (by rw [ev371]; rfl) (by decide) rfl (fun ls hl => ?_)
              refine lv_goto (tgt := 87) hx hb dX2_gatherWithout_68 (by decide) ?_
              obtain ⟨v372, ev372⟩ : ∃ y : Int32, y = x357_4 + 1 := ⟨_, rfl⟩
              have tv372 := z_add ev372 rfl (by decide : (1 : Int32).toInt = 1) (by omega) (by omega)
              refine lv_iinc (v := v372) (lv' := [(4, .int v372), (3, .int v371), (5, .int r363), (0, .ref (g 11 6)), (1, .int 5), (2, .int b)]) hx hb dX2_gatherWithout_87 hl (k := 2) rfl (by rw [ev372]; rfl) (by decide) rfl (fun ls hl => ?_)
              refine lv_goto (tgt := 12) hx hb dX2_gatherWithout_90 (by decide) ?_
              exact ih358 v372 v371 w357_a_20_2 w357_b_20_0 w357_b_20_1 ⟨by omega, by omega⟩ ⟨by omega, by omega⟩ hw357_a_20_2 (show ∀ l : Nat, l < 2 → w357_b_20_0 l = caL (cxP (fa 10 0) (iv 2 3).toInt (iv 2 4).toInt (l : Int)) (fun s : Nat => ((fa 10 0) (9 * s + 5)).toInt = (b).toInt) (fun s : Nat => (fa 10 0) (9 * s + 3)) ((v372 : Int32).toInt).toNat ∧ w357_b_20_1 l = caL (cxP (fa 10 0) (iv 2 3).toInt (iv 2 4).toInt (l : Int)) (fun s : Nat => ((fa 10 0) (9 * s + 5)).toInt = (b).toInt) (fun s : Nat => (fa 10 0) (9 * s + 4)) ((v372 : Int32).toInt).toNat ∧ w357_a_20_2 l = caC (cxP (fa 10 0) (iv 2 3).toInt (iv 2 4).toInt (l : Int)) (fun s : Nat => ((fa 10 0) (9 * s + 5)).toInt = (b).toInt) ((v372 : Int32).toInt).toNat from (fun l hl => by
                    have hs9 : ((v372 : Int32).toInt).toNat = ((x357_4 : Int32).toInt).toNat + 1 := by omega
                    have hq9 := hq358_0 l hl
                    have hy9 := xr360_0
                    have hg9 := xr363_0
                    have hc : ¬ (((fa 10 0 (9 * ((x357_4 : Int32).toInt).toNat + 0)).toInt = (iv 2 3).toInt ∧ (fa 10 0 (9 * ((x357_4 : Int32).toInt).toNat + 1)).toInt = (l : Int) ∧ (fa 10 0 (9 * ((x357_4 : Int32).toInt).toNat + 7)).toInt ≤ (iv 2 4).toInt ∧ ((fa 10 0 (9 * ((x357_4 : Int32).toInt).toNat + 8)).toInt = -1 ∨ (iv 2 4).toInt < (fa 10 0 (9 * ((x357_4 : Int32).toInt).toNat + 8)).toInt)) ∧ ¬ ((fa 10 0 (9 * ((x357_4 : Int32).toInt).toNat + 5)).toInt = b.toInt)) := by omega
                    rw [caL_n hs9 hc, caL_n hs9 hc, caC_n hs9 hc]
                    exact hq9)) (show (v371 : Int32).toInt = (smC (fun s : Nat => ((cxP (fa 10 0) (iv 2 3).toInt (iv 2 4).toInt 0) s ∨ (cxP (fa 10 0) (iv 2 3).toInt (iv 2 4).toInt 1) s) ∧ (fun s : Nat => ((fa 10 0) (9 * s + 5)).toInt = (b).toInt) s) ((v372 : Int32).toInt).toNat).toInt from (by
                    have hs9 : ((v372 : Int32).toInt).toNat = ((x357_4 : Int32).toInt).toNat + 1 := by omega
                    have hy9 := xr360_0
                    have hg9 := xr363_0
                    have hc : ((((fa 10 0 (9 * ((x357_4 : Int32).toInt).toNat + 0)).toInt = (iv 2 3).toInt ∧ (fa 10 0 (9 * ((x357_4 : Int32).toInt).toNat + 1)).toInt = 0 ∧ (fa 10 0 (9 * ((x357_4 : Int32).toInt).toNat + 7)).toInt ≤ (iv 2 4).toInt ∧ ((fa 10 0 (9 * ((x357_4 : Int32).toInt).toNat + 8)).toInt = -1 ∨ (iv 2 4).toInt < (fa 10 0 (9 * ((x357_4 : Int32).toInt).toNat + 8)).toInt)) ∨ ((fa 10 0 (9 * ((x357_4 : Int32).toInt).toNat + 0)).toInt = (iv 2 3).toInt ∧ (fa 10 0 (9 * ((x357_4 : Int32).toInt).toNat + 1)).toInt = 1 ∧ (fa 10 0 (9 * ((x357_4 : Int32).toInt).toNat + 7)).toInt ≤ (iv 2 4).toInt ∧ ((fa 10 0 (9 * ((x357_4 : Int32).toInt).toNat + 8)).toInt = -1 ∨ (iv 2 4).toInt < (fa 10 0 (9 * ((x357_4 : Int32).toInt).toNat + 8)).toInt))) ∧ (fa 10 0 (9 * ((x357_4 : Int32).toInt).toNat + 5)).toInt = b.toInt) := ⟨by omega, by omega⟩
                    have h1 : (x357_3 : Int32) = smC _ _ := Int32.toInt_inj.mp hq358_1
                    rw [smC_y hs9 hc, ← h1, ev371])) (show (v372 : Int32).toInt ≤ ((iv 10 1) : Int32).toInt from by omega) (show (v371 : Int32).toInt ≤ (v372 : Int32).toInt from by omega) (by omega) _ _ ls hP hD hS (lv_sub hl [0, 1, 3, 4, 5] rfl)
          · exact absurd c362 (by decide)
        · have fc361 := z_eq (rfl : (r360).toInt = _) (by decide : (0 : Int32).toInt = 0) c361
          refine lv_goto (tgt := 87) hx hb dX2_gatherWithout_33 (by decide) ?_
          obtain ⟨v373, ev373⟩ : ∃ y : Int32, y = x357_4 + 1 := ⟨_, rfl⟩
          have tv373 := z_add ev373 rfl (by decide : (1 : Int32).toInt = 1) (by omega) (by omega)
          refine lv_iinc (v := v373) (lv' := [(4, .int v373), (3, .int x357_3), (0, .ref (g 11 6)), (1, .int 5), (2, .int b)]) hx hb dX2_gatherWithout_87 hl (k := 0) rfl (by rw [ev373]; rfl) (by decide) rfl (fun ls hl => ?_)
          refine lv_goto (tgt := 12) hx hb dX2_gatherWithout_90 (by decide) ?_
          exact ih358 v373 x357_3 w357_a_20_2 w357_b_20_0 w357_b_20_1 ⟨by omega, by omega⟩ ⟨by omega, by omega⟩ hw357_a_20_2 (show ∀ l : Nat, l < 2 → w357_b_20_0 l = caL (cxP (fa 10 0) (iv 2 3).toInt (iv 2 4).toInt (l : Int)) (fun s : Nat => ((fa 10 0) (9 * s + 5)).toInt = (b).toInt) (fun s : Nat => (fa 10 0) (9 * s + 3)) ((v373 : Int32).toInt).toNat ∧ w357_b_20_1 l = caL (cxP (fa 10 0) (iv 2 3).toInt (iv 2 4).toInt (l : Int)) (fun s : Nat => ((fa 10 0) (9 * s + 5)).toInt = (b).toInt) (fun s : Nat => (fa 10 0) (9 * s + 4)) ((v373 : Int32).toInt).toNat ∧ w357_a_20_2 l = caC (cxP (fa 10 0) (iv 2 3).toInt (iv 2 4).toInt (l : Int)) (fun s : Nat => ((fa 10 0) (9 * s + 5)).toInt = (b).toInt) ((v373 : Int32).toInt).toNat from (fun l hl => by
                have hs9 : ((v373 : Int32).toInt).toNat = ((x357_4 : Int32).toInt).toNat + 1 := by omega
                have hq9 := hq358_0 l hl
                have hy9 := xr360_0
                have hc : ¬ (((fa 10 0 (9 * ((x357_4 : Int32).toInt).toNat + 0)).toInt = (iv 2 3).toInt ∧ (fa 10 0 (9 * ((x357_4 : Int32).toInt).toNat + 1)).toInt = (l : Int) ∧ (fa 10 0 (9 * ((x357_4 : Int32).toInt).toNat + 7)).toInt ≤ (iv 2 4).toInt ∧ ((fa 10 0 (9 * ((x357_4 : Int32).toInt).toNat + 8)).toInt = -1 ∨ (iv 2 4).toInt < (fa 10 0 (9 * ((x357_4 : Int32).toInt).toNat + 8)).toInt)) ∧ ¬ ((fa 10 0 (9 * ((x357_4 : Int32).toInt).toNat + 5)).toInt = b.toInt)) := by omega
                rw [caL_n hs9 hc, caL_n hs9 hc, caC_n hs9 hc]
                exact hq9)) (show (x357_3 : Int32).toInt = (smC (fun s : Nat => ((cxP (fa 10 0) (iv 2 3).toInt (iv 2 4).toInt 0) s ∨ (cxP (fa 10 0) (iv 2 3).toInt (iv 2 4).toInt 1) s) ∧ (fun s : Nat => ((fa 10 0) (9 * s + 5)).toInt = (b).toInt) s) ((v373 : Int32).toInt).toNat).toInt from (by
                have hs9 : ((v373 : Int32).toInt).toNat = ((x357_4 : Int32).toInt).toNat + 1 := by omega
                have hy9 := xr360_0
                have hc : ¬ ((((fa 10 0 (9 * ((x357_4 : Int32).toInt).toNat + 0)).toInt = (iv 2 3).toInt ∧ (fa 10 0 (9 * ((x357_4 : Int32).toInt).toNat + 1)).toInt = 0 ∧ (fa 10 0 (9 * ((x357_4 : Int32).toInt).toNat + 7)).toInt ≤ (iv 2 4).toInt ∧ ((fa 10 0 (9 * ((x357_4 : Int32).toInt).toNat + 8)).toInt = -1 ∨ (iv 2 4).toInt < (fa 10 0 (9 * ((x357_4 : Int32).toInt).toNat + 8)).toInt)) ∨ ((fa 10 0 (9 * ((x357_4 : Int32).toInt).toNat + 0)).toInt = (iv 2 3).toInt ∧ (fa 10 0 (9 * ((x357_4 : Int32).toInt).toNat + 1)).toInt = 1 ∧ (fa 10 0 (9 * ((x357_4 : Int32).toInt).toNat + 7)).toInt ≤ (iv 2 4).toInt ∧ ((fa 10 0 (9 * ((x357_4 : Int32).toInt).toNat + 8)).toInt = -1 ∨ (iv 2 4).toInt < (fa 10 0 (9 * ((x357_4 : Int32).toInt).toNat + 8)).toInt))) ∧ (fa 10 0 (9 * ((x357_4 : Int32).toInt).toNat + 5)).toInt = b.toInt) := by omega
                rw [smC_n hs9 hc]; exact hq358_1)) (show (v373 : Int32).toInt ≤ ((iv 10 1) : Int32).toInt from by omega) (show (x357_3 : Int32).toInt ≤ (v373 : Int32).toInt from by omega) (by omega) _ _ ls hP hD hS (lv_sub hl [0, 1, 2, 3, 4] rfl)
  have : (0 : Int32).toInt = 0 := (by decide)
  have i_10_1 : 0 ≤ (iv 10 1).toInt ∧ (iv 10 1).toInt ≤ 60 := hI.1 10 1
  exact lp358 61 0 0 n2 n3 n4 ⟨by decide, by decide⟩ ⟨by decide, by decide⟩ hn2 (show ∀ l : Nat, l < 2 → n3 l = caL (cxP (fa 10 0) (iv 2 3).toInt (iv 2 4).toInt (l : Int)) (fun s : Nat => ((fa 10 0) (9 * s + 5)).toInt = (b).toInt) (fun s : Nat => (fa 10 0) (9 * s + 3)) ((0 : Int32).toInt).toNat ∧ n4 l = caL (cxP (fa 10 0) (iv 2 3).toInt (iv 2 4).toInt (l : Int)) (fun s : Nat => ((fa 10 0) (9 * s + 5)).toInt = (b).toInt) (fun s : Nat => (fa 10 0) (9 * s + 4)) ((0 : Int32).toInt).toNat ∧ n2 l = caC (cxP (fa 10 0) (iv 2 3).toInt (iv 2 4).toInt (l : Int)) (fun s : Nat => ((fa 10 0) (9 * s + 5)).toInt = (b).toInt) ((0 : Int32).toInt).toNat from (fun l hl => by have hz : ((0 : Int32).toInt).toNat = 0 := (by decide); rw [hz]; exact xr1_0 l (by omega))) (show (0 : Int32).toInt = (smC (fun s : Nat => ((cxP (fa 10 0) (iv 2 3).toInt (iv 2 4).toInt 0) s ∨ (cxP (fa 10 0) (iv 2 3).toInt (iv 2 4).toInt 1) s) ∧ (fun s : Nat => ((fa 10 0) (9 * s + 5)).toInt = (b).toInt) s) ((0 : Int32).toInt).toNat).toInt from (by have hz : ((0 : Int32).toInt).toNat = 0 := (by decide); rw [hz]; exact (by decide : (0 : Int32).toInt = 0))) (show (0 : Int32).toInt ≤ ((iv 10 1) : Int32).toInt from by omega) (show (0 : Int32).toInt ≤ (0 : Int32).toInt from by omega) (by first | decide | omega) _ _ ls hP hD hS (lv_sub hl [0, 1, 2, 3, 4] rfl)
set_option maxHeartbeats 4000000 in
set_option maxRecDepth 100000 in
/-- X2_gatherWithout -/
theorem c_X2_gatherWithout_w6 (l : Launch) (dC : Nat → ClassId) (dI : Nat → Nat → Nat) (sz : Nat) (h : Nat) (g : Nat → Nat → Nat) (ca : Nat → Nat → ClassId) (iv : Nat → Nat → Int32) (lv : Nat → Nat → Int64) (fa : Nat → Nat → Nat → Int32) (la : Nat → Nat → Nat → Int64) (hI : IX iv fa) (b : Int32) : Met l yX2_gatherWithout (wc yX2_gatherWithout cX2_gatherWithout 6 (some .int)) ({ frames := 3, cells := 0, slots := 0, locals := 66 } : Room) (pW (dC, dI) classes (WX h g ca iv lv fa la) (TX ca) sz [.ref (g 11 6), .int 6, .int b]) (va_Qi (fun r (u : SS) => ∃ (na_20_2 : Nat → Int32) (nb_20_0 : Nat → Int64) (nb_20_1 : Nat → Int64), (∀ l : Nat, l < 2 → nb_20_0 l = caL (cxP (fa 10 0) (iv 2 3).toInt (iv 2 4).toInt (l : Int)) (fun s : Nat => ((fa 10 0) (9 * s + 6)).toInt = b.toInt) (fun s : Nat => (fa 10 0) (9 * s + 3)) ((iv 10 1).toInt).toNat ∧ nb_20_1 l = caL (cxP (fa 10 0) (iv 2 3).toInt (iv 2 4).toInt (l : Int)) (fun s : Nat => ((fa 10 0) (9 * s + 6)).toInt = b.toInt) (fun s : Nat => (fa 10 0) (9 * s + 4)) ((iv 10 1).toInt).toNat ∧ na_20_2 l = caC (cxP (fa 10 0) (iv 2 3).toInt (iv 2 4).toInt (l : Int)) (fun s : Nat => ((fa 10 0) (9 * s + 6)).toInt = b.toInt) ((iv 10 1).toInt).toNat) ∧ (r.toInt = (smC (fun s : Nat => ((cxP (fa 10 0) (iv 2 3).toInt (iv 2 4).toInt 0) s ∨ (cxP (fa 10 0) (iv 2 3).toInt (iv 2 4).toInt 1) s) ∧ (fun s : Nat => ((fa 10 0) (9 * s + 6)).toInt = b.toInt) s) ((iv 10 1).toInt).toNat).toInt) ∧ (0 ≤ r.toInt ∧ r.toInt ≤ 60) ∧ u = (iv, lv, (u2 fa 20 2 na_20_2), (u2 (u2 la 20 0 nb_20_0) 20 1 nb_20_1))) (bX (dC, dI) h g ca (va_A (WX h g ca iv lv fa la) sz)) (va_A (WX h g ca iv lv fa la) sz)) 0 0 (va_A (WX h g ca iv lv fa la) sz) := by
  refine Met.ofW (cc := cX2_gatherWithout) (maxL := 6) (ret := (some .int)) (by decide) rfl ?_
  intro p e s m args below meth c s₁ B hml hv
  obtain ⟨rfl, hsz, hP, hK, hD0⟩ := hv
  have hx := B.exec
  have hb := B.bytes
  have hr := B.returns
  have ht := tb_tl (atoms_spec (ws := wc yX2_gatherWithout cX2_gatherWithout 6 (some .int)) B.pre)
  have hown : s.vm.findClass RX2 = some m.cls := findClass_of_methodNamed B.named
  have hlocks := B.notSynchronized
  subst hsz
  have hD := hD0.self (sz := s.heap.size)
  generalize hAe : va_A (WX h g ca iv lv fa la) s.heap.size = A at hD ⊢
  have hA : ∀ q : Nat, s.heap.size ≤ q → A q := fun q h => by rw [← hAe]; exact Or.inr h
  have hS : va_S A s.heap s.heap [] := va_S.rf
  have hl := lv_entry [.ref (g 11 6), .int 6, .int b] (n := 6) (Nat.le_of_ble_eq_true rfl)
  rw [lg_entry_eq]
  generalize (lg_sl [.ref (g 11 6), .int 6, .int b] ++ List.replicate (6 - (lg_sl [.ref (g 11 6), .int 6, .int b]).length) Slot.unset).toArray = ls at hl ⊢
  have hl : lv_has ls 6 [(0, .ref (g 11 6)), (1, .int 6), (2, .int b)] := hl
  refine lv_aload_n hx hb dX2_gatherWithout_0 rfl (lv_at hl 0 rfl) ?_
  refine gX_2_1 hx hb ht hown hK hP m_305 dX2_gatherWithout_1 ?_
  have hFc := free_all hD hS hA
  refine va_callv (va_runV (As := []) (rest := []) ⟨hx, hb, hml, hown, ht⟩ (c_X7_clear_s20 l dC dI s.heap.size h g ca iv lv fa la hI) (kV 0 ht m_882 m_569 m_570 m_84 m_571 rfl rfl hd_X7_clear_v ⟨Nat.le_of_ble_eq_true rfl, Nat.le_of_ble_eq_true rfl⟩) (vW hP hK hD (rX_20 hK hP)) rfl rfl hl.1 rfl (lv_room (Nat.le_of_ble_eq_true rfl)) dX2_gatherWithout_4 ⟨Nat.le_of_ble_eq_true rfl, Nat.le_of_ble_eq_true rfl⟩) hS (fun q _ h => hFc q h) hFc (fun u t H1 locs ht9 hvm hr1 hB hz1 hk1 hS => ?_)
  obtain ⟨n2, n3, n4, xr1_0, rfl⟩ := hr1
  have hn2 : ∀ j, inb (bA 20 2 j) (n2 j) := fun j => full_i _
  obtain ⟨hP, hD⟩ := hB
  rw [ht9] at hP
  generalize H1 = H at hP hS ⊢
  have hP : va_P (dC, dI) classes (WX h g ca iv lv (u2 fa 20 2 n2) (u2 (u2 la 20 0 n3) 20 1 n4)) H := hP
  have hD : va_D A (WX h g ca iv lv (u2 fa 20 2 n2) (u2 (u2 la 20 0 n3) 20 1 n4)) := (show va_D _ (WX h g ca iv lv (u2 fa 20 2 n2) (u2 (u2 la 20 0 n3) 20 1 n4)) from hD).weaken (fun _ _ _ h => hFc _ h)
  have xr1_0 : ∀ j : Nat, j < 3 → n3 j = 0 ∧ n4 j = 0 ∧ n2 j = 0 := xr1_0
  refine lv_iconst (v := 0) hx hb dX2_gatherWithout_7 (by decide) ?_
  refine lv_istore_n (lv' := [(3, .int 0), (0, .ref (g 11 6)), (1, .int 6), (2, .int b)]) hx hb dX2_gatherWithout_8 rfl hl (by decide) rfl (fun ls hl => ?_)
  refine lv_iconst (v := 0) hx hb dX2_gatherWithout_9 (by decide) ?_
  refine lv_istore (lv' := [(4, .int 0), (3, .int 0), (0, .ref (g 11 6)), (1, .int 6), (2, .int b)]) hx hb dX2_gatherWithout_10 hl (by decide) rfl (fun ls hl => ?_)
  have i_10_1 : 0 ≤ (iv 10 1).toInt ∧ (iv 10 1).toInt ≤ 60 := hI.1 10 1
  have lp358 : ∀ (nn358 : Nat) (x357_4 : Int32) (x357_3 : Int32) (w357_a_20_2 : Nat → Int32) (w357_b_20_0 : Nat → Int64) (w357_b_20_1 : Nat → Int64), 0 ≤ x357_4.toInt ∧ x357_4.toInt ≤ 60 → 0 ≤ x357_3.toInt ∧ x357_3.toInt ≤ 60 → (∀ j, inb (bA 20 2 j) (w357_a_20_2 j)) → (∀ l : Nat, l < 2 → w357_b_20_0 l = caL (cxP (fa 10 0) (iv 2 3).toInt (iv 2 4).toInt (l : Int)) (fun s : Nat => ((fa 10 0) (9 * s + 6)).toInt = (b).toInt) (fun s : Nat => (fa 10 0) (9 * s + 3)) ((x357_4 : Int32).toInt).toNat ∧ w357_b_20_1 l = caL (cxP (fa 10 0) (iv 2 3).toInt (iv 2 4).toInt (l : Int)) (fun s : Nat => ((fa 10 0) (9 * s + 6)).toInt = (b).toInt) (fun s : Nat => (fa 10 0) (9 * s + 4)) ((x357_4 : Int32).toInt).toNat ∧ w357_a_20_2 l = caC (cxP (fa 10 0) (iv 2 3).toInt (iv 2 4).toInt (l : Int)) (fun s : Nat => ((fa 10 0) (9 * s + 6)).toInt = (b).toInt) ((x357_4 : Int32).toInt).toNat) → ((x357_3 : Int32).toInt = (smC (fun s : Nat => ((cxP (fa 10 0) (iv 2 3).toInt (iv 2 4).toInt 0) s ∨ (cxP (fa 10 0) (iv 2 3).toInt (iv 2 4).toInt 1) s) ∧ (fun s : Nat => ((fa 10 0) (9 * s + 6)).toInt = (b).toInt) s) ((x357_4 : Int32).toInt).toNat).toInt) → (x357_4 : Int32).toInt ≤ ((iv 10 1) : Int32).toInt → (x357_3 : Int32).toInt ≤ (x357_4 : Int32).toInt → 60 - x357_4.toInt < (nn358 : Int) → ∀ (H : Heap) (locs : List Loc), ∀ (ls : Array Slot), va_P (dC, dI) classes (WX h g ca iv lv (u2 fa 20 2 w357_a_20_2) (u2 (u2 la 20 0 w357_b_20_0) 20 1 w357_b_20_1)) H → va_D A (WX h g ca iv lv (u2 fa 20 2 w357_a_20_2) (u2 (u2 la 20 0 w357_b_20_0) 20 1 w357_b_20_1)) → va_S A s.heap H locs → lv_has ls 6 [(4, .int x357_4), (3, .int x357_3), (0, .ref (g 11 6)), (1, .int 6), (2, .int b)] → W p l e ({ frames := 3, cells := 0, slots := 0, locals := 66 } : Room) s m ([.ref (g 11 6), .int 6, .int b] : List Value).toArray below meth c H locs 0 0 (MQ below (va_Qi (fun r (u : SS) => ∃ (na_20_2 : Nat → Int32) (nb_20_0 : Nat → Int64) (nb_20_1 : Nat → Int64), (∀ l : Nat, l < 2 → nb_20_0 l = caL (cxP (fa 10 0) (iv 2 3).toInt (iv 2 4).toInt (l : Int)) (fun s : Nat => ((fa 10 0) (9 * s + 6)).toInt = b.toInt) (fun s : Nat => (fa 10 0) (9 * s + 3)) ((iv 10 1).toInt).toNat ∧ nb_20_1 l = caL (cxP (fa 10 0) (iv 2 3).toInt (iv 2 4).toInt (l : Int)) (fun s : Nat => ((fa 10 0) (9 * s + 6)).toInt = b.toInt) (fun s : Nat => (fa 10 0) (9 * s + 4)) ((iv 10 1).toInt).toNat ∧ na_20_2 l = caC (cxP (fa 10 0) (iv 2 3).toInt (iv 2 4).toInt (l : Int)) (fun s : Nat => ((fa 10 0) (9 * s + 6)).toInt = b.toInt) ((iv 10 1).toInt).toNat) ∧ (r.toInt = (smC (fun s : Nat => ((cxP (fa 10 0) (iv 2 3).toInt (iv 2 4).toInt 0) s ∨ (cxP (fa 10 0) (iv 2 3).toInt (iv 2 4).toInt 1) s) ∧ (fun s : Nat => ((fa 10 0) (9 * s + 6)).toInt = b.toInt) s) ((iv 10 1).toInt).toNat).toInt) ∧ (0 ≤ r.toInt ∧ r.toInt ≤ 60) ∧ u = (iv, lv, (u2 fa 20 2 na_20_2), (u2 (u2 la 20 0 nb_20_0) 20 1 nb_20_1))) (bX (dC, dI) h g ca A) A) ([.ref (g 11 6), .int 6, .int b] : List Value).toArray s 0 0 A) (F0 m 12 ls []) := by
    intro nn358
    induction nn358 with
    | zero => intro x357_4 x357_3 w357_a_20_2 w357_b_20_0 w357_b_20_1 hx357_4 hx357_3 hw357_a_20_2 hq358_0 hq358_1 hq358_2 hq358_3 hm358; exfalso; omega
    | succ nn358 ih358 =>
      intro x357_4 x357_3 w357_a_20_2 w357_b_20_0 w357_b_20_1 hx357_4 hx357_3 hw357_a_20_2 hq358_0 hq358_1 hq358_2 hq358_3 hm358 H locs ls hP hD hS hl
      refine lv_iload hx hb dX2_gatherWithout_12 (lv_at hl 0 rfl) ?_
      refine lv_aload_n hx hb dX2_gatherWithout_14 rfl (lv_at hl 2 rfl) ?_
      refine gX_2_0 hx hb ht hown hK hP m_304 dX2_gatherWithout_15 ?_
      refine gX_10_1 hx hb ht hown hK hP m_115 (v := (iv 10 1)) rfl dX2_gatherWithout_18 ?_
      refine lv_icmp_ge (tgt := 93) hx hb dX2_gatherWithout_21 (by decide) (fun c359 => ?_) (fun c359 => ?_)
      · have fc359 := z_le (rfl : ((iv 10 1)).toInt = _) (rfl : (x357_4).toInt = _) c359
        refine lv_iload_n hx hb dX2_gatherWithout_93 rfl (lv_at hl 1 rfl) ?_
        have hP9 : va_P (dC, dI) classes (WX h g ca iv lv (u2 fa 20 2 w357_a_20_2) (u2 (u2 la 20 0 w357_b_20_0) 20 1 w357_b_20_1)) H := hP
        have hD9 : va_D A (WX h g ca iv lv (u2 fa 20 2 w357_a_20_2) (u2 (u2 la 20 0 w357_b_20_0) 20 1 w357_b_20_1)) := hD
        exact W.iret (v := x357_3) hx hb hr (fun t ht9 hW => ⟨⟨x357_3, (iv, lv, (u2 fa 20 2 w357_a_20_2), (u2 (u2 la 20 0 w357_b_20_0) 20 1 w357_b_20_1)), rfl, ⟨w357_a_20_2, w357_b_20_0, w357_b_20_1, (show ∀ l : Nat, l < 2 → w357_b_20_0 l = caL (cxP (fa 10 0) (iv 2 3).toInt (iv 2 4).toInt (l : Int)) (fun s : Nat => ((fa 10 0) (9 * s + 6)).toInt = (b).toInt) (fun s : Nat => (fa 10 0) (9 * s + 3)) ((iv 10 1).toInt).toNat ∧ w357_b_20_1 l = caL (cxP (fa 10 0) (iv 2 3).toInt (iv 2 4).toInt (l : Int)) (fun s : Nat => ((fa 10 0) (9 * s + 6)).toInt = (b).toInt) (fun s : Nat => (fa 10 0) (9 * s + 4)) ((iv 10 1).toInt).toNat ∧ w357_a_20_2 l = caC (cxP (fa 10 0) (iv 2 3).toInt (iv 2 4).toInt (l : Int)) (fun s : Nat => ((fa 10 0) (9 * s + 6)).toInt = (b).toInt) ((iv 10 1).toInt).toNat from (by have hq9 := hq358_0; have he9 : (x357_4 : Int32).toInt = (iv 10 1).toInt := (by omega); rw [he9] at hq9; exact hq9)), (show (x357_3 : Int32).toInt = (smC (fun s : Nat => ((cxP (fa 10 0) (iv 2 3).toInt (iv 2 4).toInt 0) s ∨ (cxP (fa 10 0) (iv 2 3).toInt (iv 2 4).toInt 1) s) ∧ (fun s : Nat => ((fa 10 0) (9 * s + 6)).toInt = (b).toInt) s) ((iv 10 1).toInt).toNat).toInt from (by have hq9 := hq358_1; have he9 : (x357_4 : Int32).toInt = (iv 10 1).toInt := (by omega); rw [he9] at hq9; exact hq9)), ⟨by omega, by omega⟩, rfl⟩, by rw [ht9]; exact hP9, hD9⟩, hS.F ht9⟩) hS.2.2 dX2_gatherWithout_94
      · have fc359 := z_nle (rfl : ((iv 10 1)).toInt = _) (rfl : (x357_4).toInt = _) c359
        refine lv_aload_n hx hb dX2_gatherWithout_24 rfl (lv_at hl 2 rfl) ?_
        refine lv_iload hx hb dX2_gatherWithout_25 (lv_at hl 0 rfl) ?_
        refine vp_callSi (W.runV (As := [.int x357_4]) (rest := []) ⟨hx, hb, hml, hown, ht⟩ (c_X2_isInDoubt_w l dC dI h g ca iv lv (u2 fa 20 2 w357_a_20_2) (u2 (u2 la 20 0 w357_b_20_0) 20 1 w357_b_20_1) (IX_a (c := 20) (k := 2) hI hw357_a_20_2) x357_4 ⟨by omega, by omega⟩) (kV 1 ht m_883 m_885 m_32 m_85 m_886 rfl rfl hd_X2_isInDoubt_v ⟨Nat.le_of_ble_eq_true rfl, Nat.le_of_ble_eq_true rfl⟩) (vR hP hK (rX_2 hK hP)) rfl rfl hl.1 rfl (lv_room (Nat.le_of_ble_eq_true rfl)) dX2_gatherWithout_27 ⟨Nat.le_of_ble_eq_true rfl, Nat.le_of_ble_eq_true rfl⟩) (fun r360 hr360 => ?_)
        obtain ⟨hr360, xr360_0⟩ := hr360
        have xr360_0 : (((r360 : Int32).toInt = 1 ∧ ((((fa 10 0) (9 * ((x357_4 : Int32).toInt).toNat + 0)).toInt = ((iv 2 3) : Int32).toInt ∧ ((fa 10 0) (9 * ((x357_4 : Int32).toInt).toNat + 1)).toInt = 0 ∧ ((fa 10 0) (9 * ((x357_4 : Int32).toInt).toNat + 7)).toInt ≤ ((iv 2 4) : Int32).toInt ∧ (((fa 10 0) (9 * ((x357_4 : Int32).toInt).toNat + 8)).toInt = -1 ∨ ((iv 2 4) : Int32).toInt < ((fa 10 0) (9 * ((x357_4 : Int32).toInt).toNat + 8)).toInt)) ∨ (((fa 10 0) (9 * ((x357_4 : Int32).toInt).toNat + 0)).toInt = ((iv 2 3) : Int32).toInt ∧ ((fa 10 0) (9 * ((x357_4 : Int32).toInt).toNat + 1)).toInt = 1 ∧ ((fa 10 0) (9 * ((x357_4 : Int32).toInt).toNat + 7)).toInt ≤ ((iv 2 4) : Int32).toInt ∧ (((fa 10 0) (9 * ((x357_4 : Int32).toInt).toNat + 8)).toInt = -1 ∨ ((iv 2 4) : Int32).toInt < ((fa 10 0) (9 * ((x357_4 : Int32).toInt).toNat + 8)).toInt)))) ∨ ((r360 : Int32).toInt = 0 ∧ ¬ ((((fa 10 0) (9 * ((x357_4 : Int32).toInt).toNat + 0)).toInt = ((iv 2 3) : Int32).toInt ∧ ((fa 10 0) (9 * ((x357_4 : Int32).toInt).toNat + 1)).toInt = 0 ∧ ((fa 10 0) (9 * ((x357_4 : Int32).toInt).toNat + 7)).toInt ≤ ((iv 2 4) : Int32).toInt ∧ (((fa 10 0) (9 * ((x357_4 : Int32).toInt).toNat + 8)).toInt = -1 ∨ ((iv 2 4) : Int32).toInt < ((fa 10 0) (9 * ((x357_4 : Int32).toInt).toNat + 8)).toInt)) ∨ (((fa 10 0) (9 * ((x357_4 : Int32).toInt).toNat + 0)).toInt = ((iv 2 3) : Int32).toInt ∧ ((fa 10 0) (9 * ((x357_4 : Int32).toInt).toNat + 1)).toInt = 1 ∧ ((fa 10 0) (9 * ((x357_4 : Int32).toInt).toNat + 7)).toInt ≤ ((iv 2 4) : Int32).toInt ∧ (((fa 10 0) (9 * ((x357_4 : Int32).toInt).toNat + 8)).toInt = -1 ∨ ((iv 2 4) : Int32).toInt < ((fa 10 0) (9 * ((x357_4 : Int32).toInt).toNat + 8)).toInt))))) := xr360_0
        refine lv_if_ne (tgt := 36) hx hb dX2_gatherWithout_30 (by decide) (fun c361 => ?_) (fun c361 => ?_)
        · have fc361 := z_ne (rfl : (r360).toInt = _) (by decide : (0 : Int32).toInt = 0) c361
          refine lv_iload_n hx hb dX2_gatherWithout_36 rfl (lv_at hl 3 rfl) ?_
          refine lv_bipush (v := 9) hx hb dX2_gatherWithout_37 (by decide) ?_
          refine lv_icmp_ne (tgt := 47) hx hb dX2_gatherWithout_39 (by decide) (fun c362 => ?_) (fun c362 => ?_)
          · skip
            refine lv_aload_n hx hb dX2_gatherWithout_47 rfl (lv_at hl 2 rfl) ?_
            refine gX_2_0 hx hb ht hown hK hP m_304 dX2_gatherWithout_48 ?_
            refine lv_iload hx hb dX2_gatherWithout_51 (lv_at hl 0 rfl) ?_
            refine lv_iload_n hx hb dX2_gatherWithout_53 rfl (lv_at hl 3 rfl) ?_
            refine vp_callSi (W.runV (As := [.int x357_4, .int 6]) (rest := []) ⟨hx, hb, hml, hown, ht⟩ (c_X10_get_x6 l dC dI h g ca iv lv (u2 fa 20 2 w357_a_20_2) (u2 (u2 la 20 0 w357_b_20_0) 20 1 w357_b_20_1) (IX_a (c := 20) (k := 2) hI hw357_a_20_2) x357_4 ⟨by omega, by omega⟩) (kV 2 ht m_889 m_486 m_487 m_78 m_488 rfl rfl hd_X10_get_v ⟨Nat.le_of_ble_eq_true rfl, Nat.le_of_ble_eq_true rfl⟩) (vR hP hK (rX_10 hK hP)) rfl rfl hl.1 rfl (lv_room (Nat.le_of_ble_eq_true rfl)) dX2_gatherWithout_54 ⟨Nat.le_of_ble_eq_true rfl, Nat.le_of_ble_eq_true rfl⟩) (fun r363 hr363 => ?_)
            obtain ⟨hr363, xr363_0⟩ := hr363
            have xr363_0 : (r363 : Int32).toInt = ((fa 10 0) (9 * ((x357_4 : Int32).toInt).toNat + 6)).toInt := xr363_0
            refine lv_istore (lv' := [(5, .int r363), (4, .int x357_4), (3, .int x357_3), (0, .ref (g 11 6)), (1, .int 6), (2, .int b)]) hx hb dX2_gatherWithout_57 hl (by decide) rfl (fun ls hl => ?_)
            refine lv_iload hx hb dX2_gatherWithout_59 (lv_at hl 0 rfl) ?_
            refine lv_iload_n hx hb dX2_gatherWithout_61 rfl (lv_at hl 5 rfl) ?_
            refine lv_icmp_ne (tgt := 71) hx hb dX2_gatherWithout_62 (by decide) (fun c364 => ?_) (fun c364 => ?_)
            · have fc364 := z_ne (rfl : (r363).toInt = _) (rfl : (b).toInt = _) c364
              refine lv_aload_n hx hb dX2_gatherWithout_71 rfl (lv_at hl 3 rfl) ?_
              refine lv_aload_n hx hb dX2_gatherWithout_72 rfl (lv_at hl 3 rfl) ?_
              refine gX_2_0 hx hb ht hown hK hP m_304 dX2_gatherWithout_73 ?_
              refine lv_iload hx hb dX2_gatherWithout_76 (lv_at hl 1 rfl) ?_
              refine lv_iconst (v := 1) hx hb dX2_gatherWithout_78 (by decide) ?_
              refine vp_callSi (W.runV (As := [.int x357_4, .int 1]) (rest := [.ref (g 11 6)]) ⟨hx, hb, hml, hown, ht⟩ (c_X10_get_x1 l dC dI h g ca iv lv (u2 fa 20 2 w357_a_20_2) (u2 (u2 la 20 0 w357_b_20_0) 20 1 w357_b_20_1) (IX_a (c := 20) (k := 2) hI hw357_a_20_2) x357_4 ⟨by omega, by omega⟩) (kV 2 ht m_889 m_486 m_487 m_78 m_488 rfl rfl hd_X10_get_v ⟨Nat.le_of_ble_eq_true rfl, Nat.le_of_ble_eq_true rfl⟩) (vR hP hK (rX_10 hK hP)) rfl rfl hl.1 rfl (lv_room (Nat.le_of_ble_eq_true rfl)) dX2_gatherWithout_79 ⟨Nat.le_of_ble_eq_true rfl, Nat.le_of_ble_eq_true rfl⟩) (fun r365 hr365 => ?_)
              obtain ⟨hr365, xr365_0⟩ := hr365
              have xr365_0 : (r365 : Int32).toInt = ((fa 10 0) (9 * ((x357_4 : Int32).toInt).toNat + 1)).toInt := xr365_0
              refine lv_iload hx hb dX2_gatherWithout_82 (lv_at hl 1 rfl) ?_
              have hFc := free_all hD hS hA
              refine va_callv (va_runV (As := [.int r365, .int x357_4]) (rest := []) ⟨hx, hb, hml, hown, ht⟩ (c_X2_heap_w l dC dI H.size h g ca iv lv (u2 fa 20 2 w357_a_20_2) (u2 (u2 la 20 0 w357_b_20_0) 20 1 w357_b_20_1) (IX_a (c := 20) (k := 2) hI hw357_a_20_2) r365 x357_4 ⟨by omega, by omega⟩ ⟨by omega, by omega⟩) (kV 2 ht m_890 m_892 m_33 m_85 m_893 rfl rfl hd_X2_heap_v ⟨Nat.le_of_ble_eq_true rfl, Nat.le_of_ble_eq_true rfl⟩) (vW hP hK hD (rX_2 hK hP)) rfl rfl hl.1 rfl (lv_room (Nat.le_of_ble_eq_true rfl)) dX2_gatherWithout_84 ⟨Nat.le_of_ble_eq_true rfl, Nat.le_of_ble_eq_true rfl⟩) hS (fun q _ h => hFc q h) hFc (fun u t H1 locs ht9 hvm hr366 hB hz1 hk1 hS => ?_)
              obtain ⟨n367, n368, n369, xr366_0, xr366_1, xr366_2, xr366_3, xr366_4, xr366_5, rfl⟩ := hr366
              have hn367 : ∀ j, inb (bA 20 2 j) (n367 j) := fun j => full_i _
              obtain ⟨hP, hD⟩ := hB
              rw [ht9] at hP
              generalize H1 = H at hP hS ⊢
              have hP : va_P (dC, dI) classes (WX h g ca iv lv (u2 fa 20 2 n367) (u2 (u2 la 20 0 n368) 20 1 n369)) H := hP
              have hD : va_D A (WX h g ca iv lv (u2 fa 20 2 n367) (u2 (u2 la 20 0 n368) 20 1 n369)) := (show va_D _ (WX h g ca iv lv (u2 fa 20 2 n367) (u2 (u2 la 20 0 n368) 20 1 n369)) from hD).weaken (fun _ _ _ h => hFc _ h)
              have xr366_0 : ∀ j : Nat, j ≠ (r365 : Int32).toNatClampNeg → n368 j = w357_b_20_0 j := xr366_0
              have xr366_1 : ∀ j : Nat, j ≠ (r365 : Int32).toNatClampNeg → n369 j = w357_b_20_1 j := xr366_1
              have xr366_2 : ∀ j : Nat, j ≠ (r365 : Int32).toNatClampNeg → n367 j = w357_a_20_2 j := xr366_2
              have xr366_3 : n368 (r365 : Int32).toNatClampNeg = w357_b_20_0 (r365 : Int32).toNatClampNeg + ((fa 10 0) (9 * ((x357_4 : Int32).toInt).toNat + 3)).toInt64 := xr366_3
              have xr366_4 : n369 (r365 : Int32).toNatClampNeg = w357_b_20_1 (r365 : Int32).toNatClampNeg + ((fa 10 0) (9 * ((x357_4 : Int32).toInt).toNat + 4)).toInt64 := xr366_4
              have xr366_5 : n367 (r365 : Int32).toNatClampNeg = w357_a_20_2 (r365 : Int32).toNatClampNeg + 1 := xr366_5
              obtain ⟨v370, ev370⟩ : ∃ y : Int32, y = x357_4 + 1 := ⟨_, rfl⟩
              have tv370 := z_add ev370 rfl (by decide : (1 : Int32).toInt = 1) (by omega) (by omega)
              refine lv_iinc (v := v370) (lv' := [(4, .int v370), (5, .int r363), (3, .int x357_3), (0, .ref (g 11 6)), (1, .int 6), (2, .int b)]) hx hb dX2_gatherWithout_87 hl (k := 1) rfl (by rw [ev370]; rfl) (by decide) rfl (fun ls hl => ?_)
              refine lv_goto (tgt := 12) hx hb dX2_gatherWithout_90 (by decide) ?_
              exact ih358 v370 x357_3 n367 n368 n369 ⟨by omega, by omega⟩ ⟨by omega, by omega⟩ hn367 (show ∀ l : Nat, l < 2 → n368 l = caL (cxP (fa 10 0) (iv 2 3).toInt (iv 2 4).toInt (l : Int)) (fun s : Nat => ((fa 10 0) (9 * s + 6)).toInt = (b).toInt) (fun s : Nat => (fa 10 0) (9 * s + 3)) ((v370 : Int32).toInt).toNat ∧ n369 l = caL (cxP (fa 10 0) (iv 2 3).toInt (iv 2 4).toInt (l : Int)) (fun s : Nat => ((fa 10 0) (9 * s + 6)).toInt = (b).toInt) (fun s : Nat => (fa 10 0) (9 * s + 4)) ((v370 : Int32).toInt).toNat ∧ n367 l = caC (cxP (fa 10 0) (iv 2 3).toInt (iv 2 4).toInt (l : Int)) (fun s : Nat => ((fa 10 0) (9 * s + 6)).toInt = (b).toInt) ((v370 : Int32).toInt).toNat from (fun l hl => by
                    have hs9 : ((v370 : Int32).toInt).toNat = ((x357_4 : Int32).toInt).toNat + 1 := by omega
                    have hq9 := hq358_0 l hl
                    have hy9 := xr360_0
                    have hg9 := xr363_0
                    have hk9 := xr365_0
                    by_cases hl2 : l = (r365 : Int32).toNatClampNeg
                    · have hl3 : (l : Int) = (r365 : Int32).toInt := by rw [hl2]; show ((((r365 : Int32).toInt).toNat : Nat) : Int) = _; omega
                      have hc : (((fa 10 0 (9 * ((x357_4 : Int32).toInt).toNat + 0)).toInt = (iv 2 3).toInt ∧ (fa 10 0 (9 * ((x357_4 : Int32).toInt).toNat + 1)).toInt = (l : Int) ∧ (fa 10 0 (9 * ((x357_4 : Int32).toInt).toNat + 7)).toInt ≤ (iv 2 4).toInt ∧ ((fa 10 0 (9 * ((x357_4 : Int32).toInt).toNat + 8)).toInt = -1 ∨ (iv 2 4).toInt < (fa 10 0 (9 * ((x357_4 : Int32).toInt).toNat + 8)).toInt)) ∧ ¬ ((fa 10 0 (9 * ((x357_4 : Int32).toInt).toNat + 6)).toInt = b.toInt)) := ⟨⟨by omega, by omega, by omega, by omega⟩, by omega⟩
                      rw [caL_y hs9 hc, caL_y hs9 hc, caC_y hs9 hc, ← hq9.1, ← hq9.2.1, ← hq9.2.2, hl2, xr366_3, xr366_4, xr366_5]
                      exact ⟨rfl, rfl, rfl⟩
                    · have hc : ¬ (((fa 10 0 (9 * ((x357_4 : Int32).toInt).toNat + 0)).toInt = (iv 2 3).toInt ∧ (fa 10 0 (9 * ((x357_4 : Int32).toInt).toNat + 1)).toInt = (l : Int) ∧ (fa 10 0 (9 * ((x357_4 : Int32).toInt).toNat + 7)).toInt ≤ (iv 2 4).toInt ∧ ((fa 10 0 (9 * ((x357_4 : Int32).toInt).toNat + 8)).toInt = -1 ∨ (iv 2 4).toInt < (fa 10 0 (9 * ((x357_4 : Int32).toInt).toNat + 8)).toInt)) ∧ ¬ ((fa 10 0 (9 * ((x357_4 : Int32).toInt).toNat + 6)).toInt = b.toInt)) := fun z => hl2 (by have z1 := z.1.2.1; show l = ((r365 : Int32).toInt).toNat; omega)
                      rw [caL_n hs9 hc, caL_n hs9 hc, caC_n hs9 hc, xr366_0 l hl2, xr366_1 l hl2, xr366_2 l hl2]
                      exact hq9)) (show (x357_3 : Int32).toInt = (smC (fun s : Nat => ((cxP (fa 10 0) (iv 2 3).toInt (iv 2 4).toInt 0) s ∨ (cxP (fa 10 0) (iv 2 3).toInt (iv 2 4).toInt 1) s) ∧ (fun s : Nat => ((fa 10 0) (9 * s + 6)).toInt = (b).toInt) s) ((v370 : Int32).toInt).toNat).toInt from (by
                    have hs9 : ((v370 : Int32).toInt).toNat = ((x357_4 : Int32).toInt).toNat + 1 := by omega
                    have hy9 := xr360_0
                    have hg9 := xr363_0
                    have hc : ¬ ((((fa 10 0 (9 * ((x357_4 : Int32).toInt).toNat + 0)).toInt = (iv 2 3).toInt ∧ (fa 10 0 (9 * ((x357_4 : Int32).toInt).toNat + 1)).toInt = 0 ∧ (fa 10 0 (9 * ((x357_4 : Int32).toInt).toNat + 7)).toInt ≤ (iv 2 4).toInt ∧ ((fa 10 0 (9 * ((x357_4 : Int32).toInt).toNat + 8)).toInt = -1 ∨ (iv 2 4).toInt < (fa 10 0 (9 * ((x357_4 : Int32).toInt).toNat + 8)).toInt)) ∨ ((fa 10 0 (9 * ((x357_4 : Int32).toInt).toNat + 0)).toInt = (iv 2 3).toInt ∧ (fa 10 0 (9 * ((x357_4 : Int32).toInt).toNat + 1)).toInt = 1 ∧ (fa 10 0 (9 * ((x357_4 : Int32).toInt).toNat + 7)).toInt ≤ (iv 2 4).toInt ∧ ((fa 10 0 (9 * ((x357_4 : Int32).toInt).toNat + 8)).toInt = -1 ∨ (iv 2 4).toInt < (fa 10 0 (9 * ((x357_4 : Int32).toInt).toNat + 8)).toInt))) ∧ (fa 10 0 (9 * ((x357_4 : Int32).toInt).toNat + 6)).toInt = b.toInt) := by omega
                    rw [smC_n hs9 hc]; exact hq358_1)) (show (v370 : Int32).toInt ≤ ((iv 10 1) : Int32).toInt from by omega) (show (x357_3 : Int32).toInt ≤ (v370 : Int32).toInt from by omega) (by omega) _ _ ls hP hD hS (lv_sub hl [0, 2, 3, 4, 5] rfl)
            · have fc364 := z_eq (rfl : (r363).toInt = _) (rfl : (b).toInt = _) c364
              have : 0 ≤ (x357_3 : Int32).toInt ∧ (x357_3 : Int32).toInt ≤ 59 := ⟨by omega, by omega⟩
              obtain ⟨v371, ev371⟩ : ∃ y : Int32, y = x357_3 + 1 := ⟨_, rfl⟩
              have tv371 := z_add ev371 rfl (by decide : (1 : Int32).toInt = 1) (by omega) (by omega)
              refine lv_iinc (v := v371) (lv' := [(3, .int v371), (5, .int r363), (4, .int x357_4), (0, .ref (g 11 6)), (1, .int 6), (2, .int b)]) hx hb dX2_gatherWithout_65 hl (k := 2) rfl (by rw [ev371]; rfl) (by decide) rfl (fun ls hl => ?_)
              refine lv_goto (tgt := 87) hx hb dX2_gatherWithout_68 (by decide) ?_
              obtain ⟨v372, ev372⟩ : ∃ y : Int32, y = x357_4 + 1 := ⟨_, rfl⟩
              have tv372 := z_add ev372 rfl (by decide : (1 : Int32).toInt = 1) (by omega) (by omega)
              refine lv_iinc (v := v372) (lv' := [(4, .int v372), (3, .int v371), (5, .int r363), (0, .ref (g 11 6)), (1, .int 6), (2, .int b)]) hx hb dX2_gatherWithout_87 hl (k := 2) rfl (by rw [ev372]; rfl) (by decide) rfl (fun ls hl => ?_)
              refine lv_goto (tgt := 12) hx hb dX2_gatherWithout_90 (by decide) ?_
              exact ih358 v372 v371 w357_a_20_2 w357_b_20_0 w357_b_20_1 ⟨by omega, by omega⟩ ⟨by omega, by omega⟩ hw357_a_20_2 (show ∀ l : Nat, l < 2 → w357_b_20_0 l = caL (cxP (fa 10 0) (iv 2 3).toInt (iv 2 4).toInt (l : Int)) (fun s : Nat => ((fa 10 0) (9 * s + 6)).toInt = (b).toInt) (fun s : Nat => (fa 10 0) (9 * s + 3)) ((v372 : Int32).toInt).toNat ∧ w357_b_20_1 l = caL (cxP (fa 10 0) (iv 2 3).toInt (iv 2 4).toInt (l : Int)) (fun s : Nat => ((fa 10 0) (9 * s + 6)).toInt = (b).toInt) (fun s : Nat => (fa 10 0) (9 * s + 4)) ((v372 : Int32).toInt).toNat ∧ w357_a_20_2 l = caC (cxP (fa 10 0) (iv 2 3).toInt (iv 2 4).toInt (l : Int)) (fun s : Nat => ((fa 10 0) (9 * s + 6)).toInt = (b).toInt) ((v372 : Int32).toInt).toNat from (fun l hl => by
                    have hs9 : ((v372 : Int32).toInt).toNat = ((x357_4 : Int32).toInt).toNat + 1 := by omega
                    have hq9 := hq358_0 l hl
                    have hy9 := xr360_0
                    have hg9 := xr363_0
                    have hc : ¬ (((fa 10 0 (9 * ((x357_4 : Int32).toInt).toNat + 0)).toInt = (iv 2 3).toInt ∧ (fa 10 0 (9 * ((x357_4 : Int32).toInt).toNat + 1)).toInt = (l : Int) ∧ (fa 10 0 (9 * ((x357_4 : Int32).toInt).toNat + 7)).toInt ≤ (iv 2 4).toInt ∧ ((fa 10 0 (9 * ((x357_4 : Int32).toInt).toNat + 8)).toInt = -1 ∨ (iv 2 4).toInt < (fa 10 0 (9 * ((x357_4 : Int32).toInt).toNat + 8)).toInt)) ∧ ¬ ((fa 10 0 (9 * ((x357_4 : Int32).toInt).toNat + 6)).toInt = b.toInt)) := by omega
                    rw [caL_n hs9 hc, caL_n hs9 hc, caC_n hs9 hc]
                    exact hq9)) (show (v371 : Int32).toInt = (smC (fun s : Nat => ((cxP (fa 10 0) (iv 2 3).toInt (iv 2 4).toInt 0) s ∨ (cxP (fa 10 0) (iv 2 3).toInt (iv 2 4).toInt 1) s) ∧ (fun s : Nat => ((fa 10 0) (9 * s + 6)).toInt = (b).toInt) s) ((v372 : Int32).toInt).toNat).toInt from (by
                    have hs9 : ((v372 : Int32).toInt).toNat = ((x357_4 : Int32).toInt).toNat + 1 := by omega
                    have hy9 := xr360_0
                    have hg9 := xr363_0
                    have hc : ((((fa 10 0 (9 * ((x357_4 : Int32).toInt).toNat + 0)).toInt = (iv 2 3).toInt ∧ (fa 10 0 (9 * ((x357_4 : Int32).toInt).toNat + 1)).toInt = 0 ∧ (fa 10 0 (9 * ((x357_4 : Int32).toInt).toNat + 7)).toInt ≤ (iv 2 4).toInt ∧ ((fa 10 0 (9 * ((x357_4 : Int32).toInt).toNat + 8)).toInt = -1 ∨ (iv 2 4).toInt < (fa 10 0 (9 * ((x357_4 : Int32).toInt).toNat + 8)).toInt)) ∨ ((fa 10 0 (9 * ((x357_4 : Int32).toInt).toNat + 0)).toInt = (iv 2 3).toInt ∧ (fa 10 0 (9 * ((x357_4 : Int32).toInt).toNat + 1)).toInt = 1 ∧ (fa 10 0 (9 * ((x357_4 : Int32).toInt).toNat + 7)).toInt ≤ (iv 2 4).toInt ∧ ((fa 10 0 (9 * ((x357_4 : Int32).toInt).toNat + 8)).toInt = -1 ∨ (iv 2 4).toInt < (fa 10 0 (9 * ((x357_4 : Int32).toInt).toNat + 8)).toInt))) ∧ (fa 10 0 (9 * ((x357_4 : Int32).toInt).toNat + 6)).toInt = b.toInt) := ⟨by omega, by omega⟩
                    have h1 : (x357_3 : Int32) = smC _ _ := Int32.toInt_inj.mp hq358_1
                    rw [smC_y hs9 hc, ← h1, ev371])) (show (v372 : Int32).toInt ≤ ((iv 10 1) : Int32).toInt from by omega) (show (v371 : Int32).toInt ≤ (v372 : Int32).toInt from by omega) (by omega) _ _ ls hP hD hS (lv_sub hl [0, 1, 3, 4, 5] rfl)
          · exact absurd c362 (by decide)
        · have fc361 := z_eq (rfl : (r360).toInt = _) (by decide : (0 : Int32).toInt = 0) c361
          refine lv_goto (tgt := 87) hx hb dX2_gatherWithout_33 (by decide) ?_
          obtain ⟨v373, ev373⟩ : ∃ y : Int32, y = x357_4 + 1 := ⟨_, rfl⟩
          have tv373 := z_add ev373 rfl (by decide : (1 : Int32).toInt = 1) (by omega) (by omega)
          refine lv_iinc (v := v373) (lv' := [(4, .int v373), (3, .int x357_3), (0, .ref (g 11 6)), (1, .int 6), (2, .int b)]) hx hb dX2_gatherWithout_87 hl (k := 0) rfl (by rw [ev373]; rfl) (by decide) rfl (fun ls hl => ?_)
          refine lv_goto (tgt := 12) hx hb dX2_gatherWithout_90 (by decide) ?_
          exact ih358 v373 x357_3 w357_a_20_2 w357_b_20_0 w357_b_20_1 ⟨by omega, by omega⟩ ⟨by omega, by omega⟩ hw357_a_20_2 (show ∀ l : Nat, l < 2 → w357_b_20_0 l = caL (cxP (fa 10 0) (iv 2 3).toInt (iv 2 4).toInt (l : Int)) (fun s : Nat => ((fa 10 0) (9 * s + 6)).toInt = (b).toInt) (fun s : Nat => (fa 10 0) (9 * s + 3)) ((v373 : Int32).toInt).toNat ∧ w357_b_20_1 l = caL (cxP (fa 10 0) (iv 2 3).toInt (iv 2 4).toInt (l : Int)) (fun s : Nat => ((fa 10 0) (9 * s + 6)).toInt = (b).toInt) (fun s : Nat => (fa 10 0) (9 * s + 4)) ((v373 : Int32).toInt).toNat ∧ w357_a_20_2 l = caC (cxP (fa 10 0) (iv 2 3).toInt (iv 2 4).toInt (l : Int)) (fun s : Nat => ((fa 10 0) (9 * s + 6)).toInt = (b).toInt) ((v373 : Int32).toInt).toNat from (fun l hl => by
                have hs9 : ((v373 : Int32).toInt).toNat = ((x357_4 : Int32).toInt).toNat + 1 := by omega
                have hq9 := hq358_0 l hl
                have hy9 := xr360_0
                have hc : ¬ (((fa 10 0 (9 * ((x357_4 : Int32).toInt).toNat + 0)).toInt = (iv 2 3).toInt ∧ (fa 10 0 (9 * ((x357_4 : Int32).toInt).toNat + 1)).toInt = (l : Int) ∧ (fa 10 0 (9 * ((x357_4 : Int32).toInt).toNat + 7)).toInt ≤ (iv 2 4).toInt ∧ ((fa 10 0 (9 * ((x357_4 : Int32).toInt).toNat + 8)).toInt = -1 ∨ (iv 2 4).toInt < (fa 10 0 (9 * ((x357_4 : Int32).toInt).toNat + 8)).toInt)) ∧ ¬ ((fa 10 0 (9 * ((x357_4 : Int32).toInt).toNat + 6)).toInt = b.toInt)) := by omega
                rw [caL_n hs9 hc, caL_n hs9 hc, caC_n hs9 hc]
                exact hq9)) (show (x357_3 : Int32).toInt = (smC (fun s : Nat => ((cxP (fa 10 0) (iv 2 3).toInt (iv 2 4).toInt 0) s ∨ (cxP (fa 10 0) (iv 2 3).toInt (iv 2 4).toInt 1) s) ∧ (fun s : Nat => ((fa 10 0) (9 * s + 6)).toInt = (b).toInt) s) ((v373 : Int32).toInt).toNat).toInt from (by
                have hs9 : ((v373 : Int32).toInt).toNat = ((x357_4 : Int32).toInt).toNat + 1 := by omega
                have hy9 := xr360_0
                have hc : ¬ ((((fa 10 0 (9 * ((x357_4 : Int32).toInt).toNat + 0)).toInt = (iv 2 3).toInt ∧ (fa 10 0 (9 * ((x357_4 : Int32).toInt).toNat + 1)).toInt = 0 ∧ (fa 10 0 (9 * ((x357_4 : Int32).toInt).toNat + 7)).toInt ≤ (iv 2 4).toInt ∧ ((fa 10 0 (9 * ((x357_4 : Int32).toInt).toNat + 8)).toInt = -1 ∨ (iv 2 4).toInt < (fa 10 0 (9 * ((x357_4 : Int32).toInt).toNat + 8)).toInt)) ∨ ((fa 10 0 (9 * ((x357_4 : Int32).toInt).toNat + 0)).toInt = (iv 2 3).toInt ∧ (fa 10 0 (9 * ((x357_4 : Int32).toInt).toNat + 1)).toInt = 1 ∧ (fa 10 0 (9 * ((x357_4 : Int32).toInt).toNat + 7)).toInt ≤ (iv 2 4).toInt ∧ ((fa 10 0 (9 * ((x357_4 : Int32).toInt).toNat + 8)).toInt = -1 ∨ (iv 2 4).toInt < (fa 10 0 (9 * ((x357_4 : Int32).toInt).toNat + 8)).toInt))) ∧ (fa 10 0 (9 * ((x357_4 : Int32).toInt).toNat + 6)).toInt = b.toInt) := by omega
                rw [smC_n hs9 hc]; exact hq358_1)) (show (v373 : Int32).toInt ≤ ((iv 10 1) : Int32).toInt from by omega) (show (x357_3 : Int32).toInt ≤ (v373 : Int32).toInt from by omega) (by omega) _ _ ls hP hD hS (lv_sub hl [0, 1, 2, 3, 4] rfl)
  have : (0 : Int32).toInt = 0 := (by decide)
  have i_10_1 : 0 ≤ (iv 10 1).toInt ∧ (iv 10 1).toInt ≤ 60 := hI.1 10 1
  exact lp358 61 0 0 n2 n3 n4 ⟨by decide, by decide⟩ ⟨by decide, by decide⟩ hn2 (show ∀ l : Nat, l < 2 → n3 l = caL (cxP (fa 10 0) (iv 2 3).toInt (iv 2 4).toInt (l : Int)) (fun s : Nat => ((fa 10 0) (9 * s + 6)).toInt = (b).toInt) (fun s : Nat => (fa 10 0) (9 * s + 3)) ((0 : Int32).toInt).toNat ∧ n4 l = caL (cxP (fa 10 0) (iv 2 3).toInt (iv 2 4).toInt (l : Int)) (fun s : Nat => ((fa 10 0) (9 * s + 6)).toInt = (b).toInt) (fun s : Nat => (fa 10 0) (9 * s + 4)) ((0 : Int32).toInt).toNat ∧ n2 l = caC (cxP (fa 10 0) (iv 2 3).toInt (iv 2 4).toInt (l : Int)) (fun s : Nat => ((fa 10 0) (9 * s + 6)).toInt = (b).toInt) ((0 : Int32).toInt).toNat from (fun l hl => by have hz : ((0 : Int32).toInt).toNat = 0 := (by decide); rw [hz]; exact xr1_0 l (by omega))) (show (0 : Int32).toInt = (smC (fun s : Nat => ((cxP (fa 10 0) (iv 2 3).toInt (iv 2 4).toInt 0) s ∨ (cxP (fa 10 0) (iv 2 3).toInt (iv 2 4).toInt 1) s) ∧ (fun s : Nat => ((fa 10 0) (9 * s + 6)).toInt = (b).toInt) s) ((0 : Int32).toInt).toNat).toInt from (by have hz : ((0 : Int32).toInt).toNat = 0 := (by decide); rw [hz]; exact (by decide : (0 : Int32).toInt = 0))) (show (0 : Int32).toInt ≤ ((iv 10 1) : Int32).toInt from by omega) (show (0 : Int32).toInt ≤ (0 : Int32).toInt from by omega) (by first | decide | omega) _ _ ls hP hD hS (lv_sub hl [0, 1, 2, 3, 4] rfl)
set_option maxHeartbeats 4000000 in
set_option maxRecDepth 100000 in
/-- X2_gatherWithout -/
theorem c_X2_gatherWithout_w9 (l : Launch) (dC : Nat → ClassId) (dI : Nat → Nat → Nat) (sz : Nat) (h : Nat) (g : Nat → Nat → Nat) (ca : Nat → Nat → ClassId) (iv : Nat → Nat → Int32) (lv : Nat → Nat → Int64) (fa : Nat → Nat → Nat → Int32) (la : Nat → Nat → Nat → Int64) (hI : IX iv fa) (b : Int32) : Met l yX2_gatherWithout (wc yX2_gatherWithout cX2_gatherWithout 6 (some .int)) ({ frames := 3, cells := 0, slots := 0, locals := 66 } : Room) (pW (dC, dI) classes (WX h g ca iv lv fa la) (TX ca) sz [.ref (g 11 6), .int 9, .int b]) (va_Qi (fun r (u : SS) => ∃ (na_20_2 : Nat → Int32) (nb_20_0 : Nat → Int64) (nb_20_1 : Nat → Int64), (∀ l : Nat, l < 2 → nb_20_0 l = caL (cxP (fa 10 0) (iv 2 3).toInt (iv 2 4).toInt (l : Int)) (fun s : Nat => (s : Int) = b.toInt) (fun s : Nat => (fa 10 0) (9 * s + 3)) ((iv 10 1).toInt).toNat ∧ nb_20_1 l = caL (cxP (fa 10 0) (iv 2 3).toInt (iv 2 4).toInt (l : Int)) (fun s : Nat => (s : Int) = b.toInt) (fun s : Nat => (fa 10 0) (9 * s + 4)) ((iv 10 1).toInt).toNat ∧ na_20_2 l = caC (cxP (fa 10 0) (iv 2 3).toInt (iv 2 4).toInt (l : Int)) (fun s : Nat => (s : Int) = b.toInt) ((iv 10 1).toInt).toNat) ∧ (r.toInt = (smC (fun s : Nat => ((cxP (fa 10 0) (iv 2 3).toInt (iv 2 4).toInt 0) s ∨ (cxP (fa 10 0) (iv 2 3).toInt (iv 2 4).toInt 1) s) ∧ (fun s : Nat => (s : Int) = b.toInt) s) ((iv 10 1).toInt).toNat).toInt) ∧ (0 ≤ r.toInt ∧ r.toInt ≤ 60) ∧ u = (iv, lv, (u2 fa 20 2 na_20_2), (u2 (u2 la 20 0 nb_20_0) 20 1 nb_20_1))) (bX (dC, dI) h g ca (va_A (WX h g ca iv lv fa la) sz)) (va_A (WX h g ca iv lv fa la) sz)) 0 0 (va_A (WX h g ca iv lv fa la) sz) := by
  refine Met.ofW (cc := cX2_gatherWithout) (maxL := 6) (ret := (some .int)) (by decide) rfl ?_
  intro p e s m args below meth c s₁ B hml hv
  obtain ⟨rfl, hsz, hP, hK, hD0⟩ := hv
  have hx := B.exec
  have hb := B.bytes
  have hr := B.returns
  have ht := tb_tl (atoms_spec (ws := wc yX2_gatherWithout cX2_gatherWithout 6 (some .int)) B.pre)
  have hown : s.vm.findClass RX2 = some m.cls := findClass_of_methodNamed B.named
  have hlocks := B.notSynchronized
  subst hsz
  have hD := hD0.self (sz := s.heap.size)
  generalize hAe : va_A (WX h g ca iv lv fa la) s.heap.size = A at hD ⊢
  have hA : ∀ q : Nat, s.heap.size ≤ q → A q := fun q h => by rw [← hAe]; exact Or.inr h
  have hS : va_S A s.heap s.heap [] := va_S.rf
  have hl := lv_entry [.ref (g 11 6), .int 9, .int b] (n := 6) (Nat.le_of_ble_eq_true rfl)
  rw [lg_entry_eq]
  generalize (lg_sl [.ref (g 11 6), .int 9, .int b] ++ List.replicate (6 - (lg_sl [.ref (g 11 6), .int 9, .int b]).length) Slot.unset).toArray = ls at hl ⊢
  have hl : lv_has ls 6 [(0, .ref (g 11 6)), (1, .int 9), (2, .int b)] := hl
  refine lv_aload_n hx hb dX2_gatherWithout_0 rfl (lv_at hl 0 rfl) ?_
  refine gX_2_1 hx hb ht hown hK hP m_305 dX2_gatherWithout_1 ?_
  have hFc := free_all hD hS hA
  refine va_callv (va_runV (As := []) (rest := []) ⟨hx, hb, hml, hown, ht⟩ (c_X7_clear_s20 l dC dI s.heap.size h g ca iv lv fa la hI) (kV 0 ht m_882 m_569 m_570 m_84 m_571 rfl rfl hd_X7_clear_v ⟨Nat.le_of_ble_eq_true rfl, Nat.le_of_ble_eq_true rfl⟩) (vW hP hK hD (rX_20 hK hP)) rfl rfl hl.1 rfl (lv_room (Nat.le_of_ble_eq_true rfl)) dX2_gatherWithout_4 ⟨Nat.le_of_ble_eq_true rfl, Nat.le_of_ble_eq_true rfl⟩) hS (fun q _ h => hFc q h) hFc (fun u t H1 locs ht9 hvm hr1 hB hz1 hk1 hS => ?_)
  obtain ⟨n2, n3, n4, xr1_0, rfl⟩ := hr1
  have hn2 : ∀ j, inb (bA 20 2 j) (n2 j) := fun j => full_i _
  obtain ⟨hP, hD⟩ := hB
  rw [ht9] at hP
  generalize H1 = H at hP hS ⊢
  have hP : va_P (dC, dI) classes (WX h g ca iv lv (u2 fa 20 2 n2) (u2 (u2 la 20 0 n3) 20 1 n4)) H := hP
  have hD : va_D A (WX h g ca iv lv (u2 fa 20 2 n2) (u2 (u2 la 20 0 n3) 20 1 n4)) := (show va_D _ (WX h g ca iv lv (u2 fa 20 2 n2) (u2 (u2 la 20 0 n3) 20 1 n4)) from hD).weaken (fun _ _ _ h => hFc _ h)
  have xr1_0 : ∀ j : Nat, j < 3 → n3 j = 0 ∧ n4 j = 0 ∧ n2 j = 0 := xr1_0
  refine lv_iconst (v := 0) hx hb dX2_gatherWithout_7 (by decide) ?_
  refine lv_istore_n (lv' := [(3, .int 0), (0, .ref (g 11 6)), (1, .int 9), (2, .int b)]) hx hb dX2_gatherWithout_8 rfl hl (by decide) rfl (fun ls hl => ?_)
  refine lv_iconst (v := 0) hx hb dX2_gatherWithout_9 (by decide) ?_
  refine lv_istore (lv' := [(4, .int 0), (3, .int 0), (0, .ref (g 11 6)), (1, .int 9), (2, .int b)]) hx hb dX2_gatherWithout_10 hl (by decide) rfl (fun ls hl => ?_)
  have i_10_1 : 0 ≤ (iv 10 1).toInt ∧ (iv 10 1).toInt ≤ 60 := hI.1 10 1
  have lp336 : ∀ (nn336 : Nat) (x335_4 : Int32) (x335_3 : Int32) (w335_a_20_2 : Nat → Int32) (w335_b_20_0 : Nat → Int64) (w335_b_20_1 : Nat → Int64), 0 ≤ x335_4.toInt ∧ x335_4.toInt ≤ 60 → 0 ≤ x335_3.toInt ∧ x335_3.toInt ≤ 60 → (∀ j, inb (bA 20 2 j) (w335_a_20_2 j)) → (∀ l : Nat, l < 2 → w335_b_20_0 l = caL (cxP (fa 10 0) (iv 2 3).toInt (iv 2 4).toInt (l : Int)) (fun s : Nat => (s : Int) = (b).toInt) (fun s : Nat => (fa 10 0) (9 * s + 3)) ((x335_4 : Int32).toInt).toNat ∧ w335_b_20_1 l = caL (cxP (fa 10 0) (iv 2 3).toInt (iv 2 4).toInt (l : Int)) (fun s : Nat => (s : Int) = (b).toInt) (fun s : Nat => (fa 10 0) (9 * s + 4)) ((x335_4 : Int32).toInt).toNat ∧ w335_a_20_2 l = caC (cxP (fa 10 0) (iv 2 3).toInt (iv 2 4).toInt (l : Int)) (fun s : Nat => (s : Int) = (b).toInt) ((x335_4 : Int32).toInt).toNat) → ((x335_3 : Int32).toInt = (smC (fun s : Nat => ((cxP (fa 10 0) (iv 2 3).toInt (iv 2 4).toInt 0) s ∨ (cxP (fa 10 0) (iv 2 3).toInt (iv 2 4).toInt 1) s) ∧ (fun s : Nat => (s : Int) = (b).toInt) s) ((x335_4 : Int32).toInt).toNat).toInt) → (x335_4 : Int32).toInt ≤ ((iv 10 1) : Int32).toInt → (x335_3 : Int32).toInt ≤ (x335_4 : Int32).toInt → 60 - x335_4.toInt < (nn336 : Int) → ∀ (H : Heap) (locs : List Loc), ∀ (ls : Array Slot), va_P (dC, dI) classes (WX h g ca iv lv (u2 fa 20 2 w335_a_20_2) (u2 (u2 la 20 0 w335_b_20_0) 20 1 w335_b_20_1)) H → va_D A (WX h g ca iv lv (u2 fa 20 2 w335_a_20_2) (u2 (u2 la 20 0 w335_b_20_0) 20 1 w335_b_20_1)) → va_S A s.heap H locs → lv_has ls 6 [(4, .int x335_4), (3, .int x335_3), (0, .ref (g 11 6)), (1, .int 9), (2, .int b)] → W p l e ({ frames := 3, cells := 0, slots := 0, locals := 66 } : Room) s m ([.ref (g 11 6), .int 9, .int b] : List Value).toArray below meth c H locs 0 0 (MQ below (va_Qi (fun r (u : SS) => ∃ (na_20_2 : Nat → Int32) (nb_20_0 : Nat → Int64) (nb_20_1 : Nat → Int64), (∀ l : Nat, l < 2 → nb_20_0 l = caL (cxP (fa 10 0) (iv 2 3).toInt (iv 2 4).toInt (l : Int)) (fun s : Nat => (s : Int) = b.toInt) (fun s : Nat => (fa 10 0) (9 * s + 3)) ((iv 10 1).toInt).toNat ∧ nb_20_1 l = caL (cxP (fa 10 0) (iv 2 3).toInt (iv 2 4).toInt (l : Int)) (fun s : Nat => (s : Int) = b.toInt) (fun s : Nat => (fa 10 0) (9 * s + 4)) ((iv 10 1).toInt).toNat ∧ na_20_2 l = caC (cxP (fa 10 0) (iv 2 3).toInt (iv 2 4).toInt (l : Int)) (fun s : Nat => (s : Int) = b.toInt) ((iv 10 1).toInt).toNat) ∧ (r.toInt = (smC (fun s : Nat => ((cxP (fa 10 0) (iv 2 3).toInt (iv 2 4).toInt 0) s ∨ (cxP (fa 10 0) (iv 2 3).toInt (iv 2 4).toInt 1) s) ∧ (fun s : Nat => (s : Int) = b.toInt) s) ((iv 10 1).toInt).toNat).toInt) ∧ (0 ≤ r.toInt ∧ r.toInt ≤ 60) ∧ u = (iv, lv, (u2 fa 20 2 na_20_2), (u2 (u2 la 20 0 nb_20_0) 20 1 nb_20_1))) (bX (dC, dI) h g ca A) A) ([.ref (g 11 6), .int 9, .int b] : List Value).toArray s 0 0 A) (F0 m 12 ls []) := by
    intro nn336
    induction nn336 with
    | zero => intro x335_4 x335_3 w335_a_20_2 w335_b_20_0 w335_b_20_1 hx335_4 hx335_3 hw335_a_20_2 hq336_0 hq336_1 hq336_2 hq336_3 hm336; exfalso; omega
    | succ nn336 ih336 =>
      intro x335_4 x335_3 w335_a_20_2 w335_b_20_0 w335_b_20_1 hx335_4 hx335_3 hw335_a_20_2 hq336_0 hq336_1 hq336_2 hq336_3 hm336 H locs ls hP hD hS hl
      refine lv_iload hx hb dX2_gatherWithout_12 (lv_at hl 0 rfl) ?_
      refine lv_aload_n hx hb dX2_gatherWithout_14 rfl (lv_at hl 2 rfl) ?_
      refine gX_2_0 hx hb ht hown hK hP m_304 dX2_gatherWithout_15 ?_
      refine gX_10_1 hx hb ht hown hK hP m_115 (v := (iv 10 1)) rfl dX2_gatherWithout_18 ?_
      refine lv_icmp_ge (tgt := 93) hx hb dX2_gatherWithout_21 (by decide) (fun c337 => ?_) (fun c337 => ?_)
      · have fc337 := z_le (rfl : ((iv 10 1)).toInt = _) (rfl : (x335_4).toInt = _) c337
        refine lv_iload_n hx hb dX2_gatherWithout_93 rfl (lv_at hl 1 rfl) ?_
        have hP9 : va_P (dC, dI) classes (WX h g ca iv lv (u2 fa 20 2 w335_a_20_2) (u2 (u2 la 20 0 w335_b_20_0) 20 1 w335_b_20_1)) H := hP
        have hD9 : va_D A (WX h g ca iv lv (u2 fa 20 2 w335_a_20_2) (u2 (u2 la 20 0 w335_b_20_0) 20 1 w335_b_20_1)) := hD
        exact W.iret (v := x335_3) hx hb hr (fun t ht9 hW => ⟨⟨x335_3, (iv, lv, (u2 fa 20 2 w335_a_20_2), (u2 (u2 la 20 0 w335_b_20_0) 20 1 w335_b_20_1)), rfl, ⟨w335_a_20_2, w335_b_20_0, w335_b_20_1, (show ∀ l : Nat, l < 2 → w335_b_20_0 l = caL (cxP (fa 10 0) (iv 2 3).toInt (iv 2 4).toInt (l : Int)) (fun s : Nat => (s : Int) = (b).toInt) (fun s : Nat => (fa 10 0) (9 * s + 3)) ((iv 10 1).toInt).toNat ∧ w335_b_20_1 l = caL (cxP (fa 10 0) (iv 2 3).toInt (iv 2 4).toInt (l : Int)) (fun s : Nat => (s : Int) = (b).toInt) (fun s : Nat => (fa 10 0) (9 * s + 4)) ((iv 10 1).toInt).toNat ∧ w335_a_20_2 l = caC (cxP (fa 10 0) (iv 2 3).toInt (iv 2 4).toInt (l : Int)) (fun s : Nat => (s : Int) = (b).toInt) ((iv 10 1).toInt).toNat from (by have hq9 := hq336_0; have he9 : (x335_4 : Int32).toInt = (iv 10 1).toInt := (by omega); rw [he9] at hq9; exact hq9)), (show (x335_3 : Int32).toInt = (smC (fun s : Nat => ((cxP (fa 10 0) (iv 2 3).toInt (iv 2 4).toInt 0) s ∨ (cxP (fa 10 0) (iv 2 3).toInt (iv 2 4).toInt 1) s) ∧ (fun s : Nat => (s : Int) = (b).toInt) s) ((iv 10 1).toInt).toNat).toInt from (by have hq9 := hq336_1; have he9 : (x335_4 : Int32).toInt = (iv 10 1).toInt := (by omega); rw [he9] at hq9; exact hq9)), ⟨by omega, by omega⟩, rfl⟩, by rw [ht9]; exact hP9, hD9⟩, hS.F ht9⟩) hS.2.2 dX2_gatherWithout_94
      · have fc337 := z_nle (rfl : ((iv 10 1)).toInt = _) (rfl : (x335_4).toInt = _) c337
        refine lv_aload_n hx hb dX2_gatherWithout_24 rfl (lv_at hl 2 rfl) ?_
        refine lv_iload hx hb dX2_gatherWithout_25 (lv_at hl 0 rfl) ?_
        refine vp_callSi (W.runV (As := [.int x335_4]) (rest := []) ⟨hx, hb, hml, hown, ht⟩ (c_X2_isInDoubt_w l dC dI h g ca iv lv (u2 fa 20 2 w335_a_20_2) (u2 (u2 la 20 0 w335_b_20_0) 20 1 w335_b_20_1) (IX_a (c := 20) (k := 2) hI hw335_a_20_2) x335_4 ⟨by omega, by omega⟩) (kV 1 ht m_883 m_885 m_32 m_85 m_886 rfl rfl hd_X2_isInDoubt_v ⟨Nat.le_of_ble_eq_true rfl, Nat.le_of_ble_eq_true rfl⟩) (vR hP hK (rX_2 hK hP)) rfl rfl hl.1 rfl (lv_room (Nat.le_of_ble_eq_true rfl)) dX2_gatherWithout_27 ⟨Nat.le_of_ble_eq_true rfl, Nat.le_of_ble_eq_true rfl⟩) (fun r338 hr338 => ?_)
        obtain ⟨hr338, xr338_0⟩ := hr338
        have xr338_0 : (((r338 : Int32).toInt = 1 ∧ ((((fa 10 0) (9 * ((x335_4 : Int32).toInt).toNat + 0)).toInt = ((iv 2 3) : Int32).toInt ∧ ((fa 10 0) (9 * ((x335_4 : Int32).toInt).toNat + 1)).toInt = 0 ∧ ((fa 10 0) (9 * ((x335_4 : Int32).toInt).toNat + 7)).toInt ≤ ((iv 2 4) : Int32).toInt ∧ (((fa 10 0) (9 * ((x335_4 : Int32).toInt).toNat + 8)).toInt = -1 ∨ ((iv 2 4) : Int32).toInt < ((fa 10 0) (9 * ((x335_4 : Int32).toInt).toNat + 8)).toInt)) ∨ (((fa 10 0) (9 * ((x335_4 : Int32).toInt).toNat + 0)).toInt = ((iv 2 3) : Int32).toInt ∧ ((fa 10 0) (9 * ((x335_4 : Int32).toInt).toNat + 1)).toInt = 1 ∧ ((fa 10 0) (9 * ((x335_4 : Int32).toInt).toNat + 7)).toInt ≤ ((iv 2 4) : Int32).toInt ∧ (((fa 10 0) (9 * ((x335_4 : Int32).toInt).toNat + 8)).toInt = -1 ∨ ((iv 2 4) : Int32).toInt < ((fa 10 0) (9 * ((x335_4 : Int32).toInt).toNat + 8)).toInt)))) ∨ ((r338 : Int32).toInt = 0 ∧ ¬ ((((fa 10 0) (9 * ((x335_4 : Int32).toInt).toNat + 0)).toInt = ((iv 2 3) : Int32).toInt ∧ ((fa 10 0) (9 * ((x335_4 : Int32).toInt).toNat + 1)).toInt = 0 ∧ ((fa 10 0) (9 * ((x335_4 : Int32).toInt).toNat + 7)).toInt ≤ ((iv 2 4) : Int32).toInt ∧ (((fa 10 0) (9 * ((x335_4 : Int32).toInt).toNat + 8)).toInt = -1 ∨ ((iv 2 4) : Int32).toInt < ((fa 10 0) (9 * ((x335_4 : Int32).toInt).toNat + 8)).toInt)) ∨ (((fa 10 0) (9 * ((x335_4 : Int32).toInt).toNat + 0)).toInt = ((iv 2 3) : Int32).toInt ∧ ((fa 10 0) (9 * ((x335_4 : Int32).toInt).toNat + 1)).toInt = 1 ∧ ((fa 10 0) (9 * ((x335_4 : Int32).toInt).toNat + 7)).toInt ≤ ((iv 2 4) : Int32).toInt ∧ (((fa 10 0) (9 * ((x335_4 : Int32).toInt).toNat + 8)).toInt = -1 ∨ ((iv 2 4) : Int32).toInt < ((fa 10 0) (9 * ((x335_4 : Int32).toInt).toNat + 8)).toInt))))) := xr338_0
        refine lv_if_ne (tgt := 36) hx hb dX2_gatherWithout_30 (by decide) (fun c339 => ?_) (fun c339 => ?_)
        · have fc339 := z_ne (rfl : (r338).toInt = _) (by decide : (0 : Int32).toInt = 0) c339
          refine lv_iload_n hx hb dX2_gatherWithout_36 rfl (lv_at hl 3 rfl) ?_
          refine lv_bipush (v := 9) hx hb dX2_gatherWithout_37 (by decide) ?_
          refine lv_icmp_ne (tgt := 47) hx hb dX2_gatherWithout_39 (by decide) (fun c340 => ?_) (fun c340 => ?_)
          · exact absurd rfl c340
          · skip
            refine lv_iload hx hb dX2_gatherWithout_42 (lv_at hl 0 rfl) ?_
            refine lv_goto (tgt := 57) hx hb dX2_gatherWithout_44 (by decide) ?_
            refine lv_istore (lv' := [(5, .int x335_4), (4, .int x335_4), (3, .int x335_3), (0, .ref (g 11 6)), (1, .int 9), (2, .int b)]) hx hb dX2_gatherWithout_57 hl (by decide) rfl (fun ls hl => ?_)
            refine lv_iload hx hb dX2_gatherWithout_59 (lv_at hl 0 rfl) ?_
            refine lv_iload_n hx hb dX2_gatherWithout_61 rfl (lv_at hl 5 rfl) ?_
            refine lv_icmp_ne (tgt := 71) hx hb dX2_gatherWithout_62 (by decide) (fun c341 => ?_) (fun c341 => ?_)
            · have fc341 := z_ne (rfl : (x335_4).toInt = _) (rfl : (b).toInt = _) c341
              refine lv_aload_n hx hb dX2_gatherWithout_71 rfl (lv_at hl 3 rfl) ?_
              refine lv_aload_n hx hb dX2_gatherWithout_72 rfl (lv_at hl 3 rfl) ?_
              refine gX_2_0 hx hb ht hown hK hP m_304 dX2_gatherWithout_73 ?_
              refine lv_iload hx hb dX2_gatherWithout_76 (lv_at hl 1 rfl) ?_
              refine lv_iconst (v := 1) hx hb dX2_gatherWithout_78 (by decide) ?_
              refine vp_callSi (W.runV (As := [.int x335_4, .int 1]) (rest := [.ref (g 11 6)]) ⟨hx, hb, hml, hown, ht⟩ (c_X10_get_x1 l dC dI h g ca iv lv (u2 fa 20 2 w335_a_20_2) (u2 (u2 la 20 0 w335_b_20_0) 20 1 w335_b_20_1) (IX_a (c := 20) (k := 2) hI hw335_a_20_2) x335_4 ⟨by omega, by omega⟩) (kV 2 ht m_889 m_486 m_487 m_78 m_488 rfl rfl hd_X10_get_v ⟨Nat.le_of_ble_eq_true rfl, Nat.le_of_ble_eq_true rfl⟩) (vR hP hK (rX_10 hK hP)) rfl rfl hl.1 rfl (lv_room (Nat.le_of_ble_eq_true rfl)) dX2_gatherWithout_79 ⟨Nat.le_of_ble_eq_true rfl, Nat.le_of_ble_eq_true rfl⟩) (fun r342 hr342 => ?_)
              obtain ⟨hr342, xr342_0⟩ := hr342
              have xr342_0 : (r342 : Int32).toInt = ((fa 10 0) (9 * ((x335_4 : Int32).toInt).toNat + 1)).toInt := xr342_0
              refine lv_iload hx hb dX2_gatherWithout_82 (lv_at hl 1 rfl) ?_
              have hFc := free_all hD hS hA
              refine va_callv (va_runV (As := [.int r342, .int x335_4]) (rest := []) ⟨hx, hb, hml, hown, ht⟩ (c_X2_heap_w l dC dI H.size h g ca iv lv (u2 fa 20 2 w335_a_20_2) (u2 (u2 la 20 0 w335_b_20_0) 20 1 w335_b_20_1) (IX_a (c := 20) (k := 2) hI hw335_a_20_2) r342 x335_4 ⟨by omega, by omega⟩ ⟨by omega, by omega⟩) (kV 2 ht m_890 m_892 m_33 m_85 m_893 rfl rfl hd_X2_heap_v ⟨Nat.le_of_ble_eq_true rfl, Nat.le_of_ble_eq_true rfl⟩) (vW hP hK hD (rX_2 hK hP)) rfl rfl hl.1 rfl (lv_room (Nat.le_of_ble_eq_true rfl)) dX2_gatherWithout_84 ⟨Nat.le_of_ble_eq_true rfl, Nat.le_of_ble_eq_true rfl⟩) hS (fun q _ h => hFc q h) hFc (fun u t H1 locs ht9 hvm hr343 hB hz1 hk1 hS => ?_)
              obtain ⟨n344, n345, n346, xr343_0, xr343_1, xr343_2, xr343_3, xr343_4, xr343_5, rfl⟩ := hr343
              have hn344 : ∀ j, inb (bA 20 2 j) (n344 j) := fun j => full_i _
              obtain ⟨hP, hD⟩ := hB
              rw [ht9] at hP
              generalize H1 = H at hP hS ⊢
              have hP : va_P (dC, dI) classes (WX h g ca iv lv (u2 fa 20 2 n344) (u2 (u2 la 20 0 n345) 20 1 n346)) H := hP
              have hD : va_D A (WX h g ca iv lv (u2 fa 20 2 n344) (u2 (u2 la 20 0 n345) 20 1 n346)) := (show va_D _ (WX h g ca iv lv (u2 fa 20 2 n344) (u2 (u2 la 20 0 n345) 20 1 n346)) from hD).weaken (fun _ _ _ h => hFc _ h)
              have xr343_0 : ∀ j : Nat, j ≠ (r342 : Int32).toNatClampNeg → n345 j = w335_b_20_0 j := xr343_0
              have xr343_1 : ∀ j : Nat, j ≠ (r342 : Int32).toNatClampNeg → n346 j = w335_b_20_1 j := xr343_1
              have xr343_2 : ∀ j : Nat, j ≠ (r342 : Int32).toNatClampNeg → n344 j = w335_a_20_2 j := xr343_2
              have xr343_3 : n345 (r342 : Int32).toNatClampNeg = w335_b_20_0 (r342 : Int32).toNatClampNeg + ((fa 10 0) (9 * ((x335_4 : Int32).toInt).toNat + 3)).toInt64 := xr343_3
              have xr343_4 : n346 (r342 : Int32).toNatClampNeg = w335_b_20_1 (r342 : Int32).toNatClampNeg + ((fa 10 0) (9 * ((x335_4 : Int32).toInt).toNat + 4)).toInt64 := xr343_4
              have xr343_5 : n344 (r342 : Int32).toNatClampNeg = w335_a_20_2 (r342 : Int32).toNatClampNeg + 1 := xr343_5
              obtain ⟨v347, ev347⟩ : ∃ y : Int32, y = x335_4 + 1 := ⟨_, rfl⟩
              have tv347 := z_add ev347 rfl (by decide : (1 : Int32).toInt = 1) (by omega) (by omega)
              refine lv_iinc (v := v347) (lv' := [(4, .int v347), (5, .int x335_4), (3, .int x335_3), (0, .ref (g 11 6)), (1, .int 9), (2, .int b)]) hx hb dX2_gatherWithout_87 hl (k := 1) rfl (by rw [ev347]; rfl) (by decide) rfl (fun ls hl => ?_)
              refine lv_goto (tgt := 12) hx hb dX2_gatherWithout_90 (by decide) ?_
              exact ih336 v347 x335_3 n344 n345 n346 ⟨by omega, by omega⟩ ⟨by omega, by omega⟩ hn344 (show ∀ l : Nat, l < 2 → n345 l = caL (cxP (fa 10 0) (iv 2 3).toInt (iv 2 4).toInt (l : Int)) (fun s : Nat => (s : Int) = (b).toInt) (fun s : Nat => (fa 10 0) (9 * s + 3)) ((v347 : Int32).toInt).toNat ∧ n346 l = caL (cxP (fa 10 0) (iv 2 3).toInt (iv 2 4).toInt (l : Int)) (fun s : Nat => (s : Int) = (b).toInt) (fun s : Nat => (fa 10 0) (9 * s + 4)) ((v347 : Int32).toInt).toNat ∧ n344 l = caC (cxP (fa 10 0) (iv 2 3).toInt (iv 2 4).toInt (l : Int)) (fun s : Nat => (s : Int) = (b).toInt) ((v347 : Int32).toInt).toNat from (fun l hl => by
                    have hs9 : ((v347 : Int32).toInt).toNat = ((x335_4 : Int32).toInt).toNat + 1 := by omega
                    have hq9 := hq336_0 l hl
                    have hy9 := xr338_0
                    have hk9 := xr342_0
                    by_cases hl2 : l = (r342 : Int32).toNatClampNeg
                    · have hl3 : (l : Int) = (r342 : Int32).toInt := by rw [hl2]; show ((((r342 : Int32).toInt).toNat : Nat) : Int) = _; omega
                      have hc : (((fa 10 0 (9 * ((x335_4 : Int32).toInt).toNat + 0)).toInt = (iv 2 3).toInt ∧ (fa 10 0 (9 * ((x335_4 : Int32).toInt).toNat + 1)).toInt = (l : Int) ∧ (fa 10 0 (9 * ((x335_4 : Int32).toInt).toNat + 7)).toInt ≤ (iv 2 4).toInt ∧ ((fa 10 0 (9 * ((x335_4 : Int32).toInt).toNat + 8)).toInt = -1 ∨ (iv 2 4).toInt < (fa 10 0 (9 * ((x335_4 : Int32).toInt).toNat + 8)).toInt)) ∧ ¬ (((((x335_4 : Int32).toInt).toNat : Nat) : Int) = b.toInt)) := ⟨⟨by omega, by omega, by omega, by omega⟩, by omega⟩
                      rw [caL_y hs9 hc, caL_y hs9 hc, caC_y hs9 hc, ← hq9.1, ← hq9.2.1, ← hq9.2.2, hl2, xr343_3, xr343_4, xr343_5]
                      exact ⟨rfl, rfl, rfl⟩
                    · have hc : ¬ (((fa 10 0 (9 * ((x335_4 : Int32).toInt).toNat + 0)).toInt = (iv 2 3).toInt ∧ (fa 10 0 (9 * ((x335_4 : Int32).toInt).toNat + 1)).toInt = (l : Int) ∧ (fa 10 0 (9 * ((x335_4 : Int32).toInt).toNat + 7)).toInt ≤ (iv 2 4).toInt ∧ ((fa 10 0 (9 * ((x335_4 : Int32).toInt).toNat + 8)).toInt = -1 ∨ (iv 2 4).toInt < (fa 10 0 (9 * ((x335_4 : Int32).toInt).toNat + 8)).toInt)) ∧ ¬ (((((x335_4 : Int32).toInt).toNat : Nat) : Int) = b.toInt)) := fun z => hl2 (by have z1 := z.1.2.1; show l = ((r342 : Int32).toInt).toNat; omega)
                      rw [caL_n hs9 hc, caL_n hs9 hc, caC_n hs9 hc, xr343_0 l hl2, xr343_1 l hl2, xr343_2 l hl2]
                      exact hq9)) (show (x335_3 : Int32).toInt = (smC (fun s : Nat => ((cxP (fa 10 0) (iv 2 3).toInt (iv 2 4).toInt 0) s ∨ (cxP (fa 10 0) (iv 2 3).toInt (iv 2 4).toInt 1) s) ∧ (fun s : Nat => (s : Int) = (b).toInt) s) ((v347 : Int32).toInt).toNat).toInt from (by
                    have hs9 : ((v347 : Int32).toInt).toNat = ((x335_4 : Int32).toInt).toNat + 1 := by omega
                    have hy9 := xr338_0
                    have hc : ¬ ((((fa 10 0 (9 * ((x335_4 : Int32).toInt).toNat + 0)).toInt = (iv 2 3).toInt ∧ (fa 10 0 (9 * ((x335_4 : Int32).toInt).toNat + 1)).toInt = 0 ∧ (fa 10 0 (9 * ((x335_4 : Int32).toInt).toNat + 7)).toInt ≤ (iv 2 4).toInt ∧ ((fa 10 0 (9 * ((x335_4 : Int32).toInt).toNat + 8)).toInt = -1 ∨ (iv 2 4).toInt < (fa 10 0 (9 * ((x335_4 : Int32).toInt).toNat + 8)).toInt)) ∨ ((fa 10 0 (9 * ((x335_4 : Int32).toInt).toNat + 0)).toInt = (iv 2 3).toInt ∧ (fa 10 0 (9 * ((x335_4 : Int32).toInt).toNat + 1)).toInt = 1 ∧ (fa 10 0 (9 * ((x335_4 : Int32).toInt).toNat + 7)).toInt ≤ (iv 2 4).toInt ∧ ((fa 10 0 (9 * ((x335_4 : Int32).toInt).toNat + 8)).toInt = -1 ∨ (iv 2 4).toInt < (fa 10 0 (9 * ((x335_4 : Int32).toInt).toNat + 8)).toInt))) ∧ ((((x335_4 : Int32).toInt).toNat : Nat) : Int) = b.toInt) := by omega
                    rw [smC_n hs9 hc]; exact hq336_1)) (show (v347 : Int32).toInt ≤ ((iv 10 1) : Int32).toInt from by omega) (show (x335_3 : Int32).toInt ≤ (v347 : Int32).toInt from by omega) (by omega) _ _ ls hP hD hS (lv_sub hl [0, 2, 3, 4, 5] rfl)
            · have fc341 := z_eq (rfl : (x335_4).toInt = _) (rfl : (b).toInt = _) c341
              have : 0 ≤ (x335_3 : Int32).toInt ∧ (x335_3 : Int32).toInt ≤ 59 := ⟨by omega, by omega⟩
              obtain ⟨v348, ev348⟩ : ∃ y : Int32, y = x335_3 + 1 := ⟨_, rfl⟩
              have tv348 := z_add ev348 rfl (by decide : (1 : Int32).toInt = 1) (by omega) (by omega)
              refine lv_iinc (v := v348) (lv' := [(3, .int v348), (5, .int x335_4), (4, .int x335_4), (0, .ref (g 11 6)), (1, .int 9), (2, .int b)]) hx hb dX2_gatherWithout_65 hl (k := 2) rfl (by rw [ev348]; rfl) (by decide) rfl (fun ls hl => ?_)
              refine lv_goto (tgt := 87) hx hb dX2_gatherWithout_68 (by decide) ?_
              obtain ⟨v349, ev349⟩ : ∃ y : Int32, y = x335_4 + 1 := ⟨_, rfl⟩
              have tv349 := z_add ev349 rfl (by decide : (1 : Int32).toInt = 1) (by omega) (by omega)
              refine lv_iinc (v := v349) (lv' := [(4, .int v349), (3, .int v348), (5, .int x335_4), (0, .ref (g 11 6)), (1, .int 9), (2, .int b)]) hx hb dX2_gatherWithout_87 hl (k := 2) rfl (by rw [ev349]; rfl) (by decide) rfl (fun ls hl => ?_)
              refine lv_goto (tgt := 12) hx hb dX2_gatherWithout_90 (by decide) ?_
              exact ih336 v349 v348 w335_a_20_2 w335_b_20_0 w335_b_20_1 ⟨by omega, by omega⟩ ⟨by omega, by omega⟩ hw335_a_20_2 (show ∀ l : Nat, l < 2 → w335_b_20_0 l = caL (cxP (fa 10 0) (iv 2 3).toInt (iv 2 4).toInt (l : Int)) (fun s : Nat => (s : Int) = (b).toInt) (fun s : Nat => (fa 10 0) (9 * s + 3)) ((v349 : Int32).toInt).toNat ∧ w335_b_20_1 l = caL (cxP (fa 10 0) (iv 2 3).toInt (iv 2 4).toInt (l : Int)) (fun s : Nat => (s : Int) = (b).toInt) (fun s : Nat => (fa 10 0) (9 * s + 4)) ((v349 : Int32).toInt).toNat ∧ w335_a_20_2 l = caC (cxP (fa 10 0) (iv 2 3).toInt (iv 2 4).toInt (l : Int)) (fun s : Nat => (s : Int) = (b).toInt) ((v349 : Int32).toInt).toNat from (fun l hl => by
                    have hs9 : ((v349 : Int32).toInt).toNat = ((x335_4 : Int32).toInt).toNat + 1 := by omega
                    have hq9 := hq336_0 l hl
                    have hy9 := xr338_0
                    have hc : ¬ (((fa 10 0 (9 * ((x335_4 : Int32).toInt).toNat + 0)).toInt = (iv 2 3).toInt ∧ (fa 10 0 (9 * ((x335_4 : Int32).toInt).toNat + 1)).toInt = (l : Int) ∧ (fa 10 0 (9 * ((x335_4 : Int32).toInt).toNat + 7)).toInt ≤ (iv 2 4).toInt ∧ ((fa 10 0 (9 * ((x335_4 : Int32).toInt).toNat + 8)).toInt = -1 ∨ (iv 2 4).toInt < (fa 10 0 (9 * ((x335_4 : Int32).toInt).toNat + 8)).toInt)) ∧ ¬ (((((x335_4 : Int32).toInt).toNat : Nat) : Int) = b.toInt)) := by omega
                    rw [caL_n hs9 hc, caL_n hs9 hc, caC_n hs9 hc]
                    exact hq9)) (show (v348 : Int32).toInt = (smC (fun s : Nat => ((cxP (fa 10 0) (iv 2 3).toInt (iv 2 4).toInt 0) s ∨ (cxP (fa 10 0) (iv 2 3).toInt (iv 2 4).toInt 1) s) ∧ (fun s : Nat => (s : Int) = (b).toInt) s) ((v349 : Int32).toInt).toNat).toInt from (by
                    have hs9 : ((v349 : Int32).toInt).toNat = ((x335_4 : Int32).toInt).toNat + 1 := by omega
                    have hy9 := xr338_0
                    have hc : ((((fa 10 0 (9 * ((x335_4 : Int32).toInt).toNat + 0)).toInt = (iv 2 3).toInt ∧ (fa 10 0 (9 * ((x335_4 : Int32).toInt).toNat + 1)).toInt = 0 ∧ (fa 10 0 (9 * ((x335_4 : Int32).toInt).toNat + 7)).toInt ≤ (iv 2 4).toInt ∧ ((fa 10 0 (9 * ((x335_4 : Int32).toInt).toNat + 8)).toInt = -1 ∨ (iv 2 4).toInt < (fa 10 0 (9 * ((x335_4 : Int32).toInt).toNat + 8)).toInt)) ∨ ((fa 10 0 (9 * ((x335_4 : Int32).toInt).toNat + 0)).toInt = (iv 2 3).toInt ∧ (fa 10 0 (9 * ((x335_4 : Int32).toInt).toNat + 1)).toInt = 1 ∧ (fa 10 0 (9 * ((x335_4 : Int32).toInt).toNat + 7)).toInt ≤ (iv 2 4).toInt ∧ ((fa 10 0 (9 * ((x335_4 : Int32).toInt).toNat + 8)).toInt = -1 ∨ (iv 2 4).toInt < (fa 10 0 (9 * ((x335_4 : Int32).toInt).toNat + 8)).toInt))) ∧ ((((x335_4 : Int32).toInt).toNat : Nat) : Int) = b.toInt) := ⟨by omega, by omega⟩
                    have h1 : (x335_3 : Int32) = smC _ _ := Int32.toInt_inj.mp hq336_1
                    rw [smC_y hs9 hc, ← h1, ev348])) (show (v349 : Int32).toInt ≤ ((iv 10 1) : Int32).toInt from by omega) (show (v348 : Int32).toInt ≤ (v349 : Int32).toInt from by omega) (by omega) _ _ ls hP hD hS (lv_sub hl [0, 1, 3, 4, 5] rfl)
        · have fc339 := z_eq (rfl : (r338).toInt = _) (by decide : (0 : Int32).toInt = 0) c339
          refine lv_goto (tgt := 87) hx hb dX2_gatherWithout_33 (by decide) ?_
          obtain ⟨v350, ev350⟩ : ∃ y : Int32, y = x335_4 + 1 := ⟨_, rfl⟩
          have tv350 := z_add ev350 rfl (by decide : (1 : Int32).toInt = 1) (by omega) (by omega)
          refine lv_iinc (v := v350) (lv' := [(4, .int v350), (3, .int x335_3), (0, .ref (g 11 6)), (1, .int 9), (2, .int b)]) hx hb dX2_gatherWithout_87 hl (k := 0) rfl (by rw [ev350]; rfl) (by decide) rfl (fun ls hl => ?_)
          refine lv_goto (tgt := 12) hx hb dX2_gatherWithout_90 (by decide) ?_
          exact ih336 v350 x335_3 w335_a_20_2 w335_b_20_0 w335_b_20_1 ⟨by omega, by omega⟩ ⟨by omega, by omega⟩ hw335_a_20_2 (show ∀ l : Nat, l < 2 → w335_b_20_0 l = caL (cxP (fa 10 0) (iv 2 3).toInt (iv 2 4).toInt (l : Int)) (fun s : Nat => (s : Int) = (b).toInt) (fun s : Nat => (fa 10 0) (9 * s + 3)) ((v350 : Int32).toInt).toNat ∧ w335_b_20_1 l = caL (cxP (fa 10 0) (iv 2 3).toInt (iv 2 4).toInt (l : Int)) (fun s : Nat => (s : Int) = (b).toInt) (fun s : Nat => (fa 10 0) (9 * s + 4)) ((v350 : Int32).toInt).toNat ∧ w335_a_20_2 l = caC (cxP (fa 10 0) (iv 2 3).toInt (iv 2 4).toInt (l : Int)) (fun s : Nat => (s : Int) = (b).toInt) ((v350 : Int32).toInt).toNat from (fun l hl => by
                have hs9 : ((v350 : Int32).toInt).toNat = ((x335_4 : Int32).toInt).toNat + 1 := by omega
                have hq9 := hq336_0 l hl
                have hy9 := xr338_0
                have hc : ¬ (((fa 10 0 (9 * ((x335_4 : Int32).toInt).toNat + 0)).toInt = (iv 2 3).toInt ∧ (fa 10 0 (9 * ((x335_4 : Int32).toInt).toNat + 1)).toInt = (l : Int) ∧ (fa 10 0 (9 * ((x335_4 : Int32).toInt).toNat + 7)).toInt ≤ (iv 2 4).toInt ∧ ((fa 10 0 (9 * ((x335_4 : Int32).toInt).toNat + 8)).toInt = -1 ∨ (iv 2 4).toInt < (fa 10 0 (9 * ((x335_4 : Int32).toInt).toNat + 8)).toInt)) ∧ ¬ (((((x335_4 : Int32).toInt).toNat : Nat) : Int) = b.toInt)) := by omega
                rw [caL_n hs9 hc, caL_n hs9 hc, caC_n hs9 hc]
                exact hq9)) (show (x335_3 : Int32).toInt = (smC (fun s : Nat => ((cxP (fa 10 0) (iv 2 3).toInt (iv 2 4).toInt 0) s ∨ (cxP (fa 10 0) (iv 2 3).toInt (iv 2 4).toInt 1) s) ∧ (fun s : Nat => (s : Int) = (b).toInt) s) ((v350 : Int32).toInt).toNat).toInt from (by
                have hs9 : ((v350 : Int32).toInt).toNat = ((x335_4 : Int32).toInt).toNat + 1 := by omega
                have hy9 := xr338_0
                have hc : ¬ ((((fa 10 0 (9 * ((x335_4 : Int32).toInt).toNat + 0)).toInt = (iv 2 3).toInt ∧ (fa 10 0 (9 * ((x335_4 : Int32).toInt).toNat + 1)).toInt = 0 ∧ (fa 10 0 (9 * ((x335_4 : Int32).toInt).toNat + 7)).toInt ≤ (iv 2 4).toInt ∧ ((fa 10 0 (9 * ((x335_4 : Int32).toInt).toNat + 8)).toInt = -1 ∨ (iv 2 4).toInt < (fa 10 0 (9 * ((x335_4 : Int32).toInt).toNat + 8)).toInt)) ∨ ((fa 10 0 (9 * ((x335_4 : Int32).toInt).toNat + 0)).toInt = (iv 2 3).toInt ∧ (fa 10 0 (9 * ((x335_4 : Int32).toInt).toNat + 1)).toInt = 1 ∧ (fa 10 0 (9 * ((x335_4 : Int32).toInt).toNat + 7)).toInt ≤ (iv 2 4).toInt ∧ ((fa 10 0 (9 * ((x335_4 : Int32).toInt).toNat + 8)).toInt = -1 ∨ (iv 2 4).toInt < (fa 10 0 (9 * ((x335_4 : Int32).toInt).toNat + 8)).toInt))) ∧ ((((x335_4 : Int32).toInt).toNat : Nat) : Int) = b.toInt) := by omega
                rw [smC_n hs9 hc]; exact hq336_1)) (show (v350 : Int32).toInt ≤ ((iv 10 1) : Int32).toInt from by omega) (show (x335_3 : Int32).toInt ≤ (v350 : Int32).toInt from by omega) (by omega) _ _ ls hP hD hS (lv_sub hl [0, 1, 2, 3, 4] rfl)
  have : (0 : Int32).toInt = 0 := (by decide)
  have i_10_1 : 0 ≤ (iv 10 1).toInt ∧ (iv 10 1).toInt ≤ 60 := hI.1 10 1
  exact lp336 61 0 0 n2 n3 n4 ⟨by decide, by decide⟩ ⟨by decide, by decide⟩ hn2 (show ∀ l : Nat, l < 2 → n3 l = caL (cxP (fa 10 0) (iv 2 3).toInt (iv 2 4).toInt (l : Int)) (fun s : Nat => (s : Int) = (b).toInt) (fun s : Nat => (fa 10 0) (9 * s + 3)) ((0 : Int32).toInt).toNat ∧ n4 l = caL (cxP (fa 10 0) (iv 2 3).toInt (iv 2 4).toInt (l : Int)) (fun s : Nat => (s : Int) = (b).toInt) (fun s : Nat => (fa 10 0) (9 * s + 4)) ((0 : Int32).toInt).toNat ∧ n2 l = caC (cxP (fa 10 0) (iv 2 3).toInt (iv 2 4).toInt (l : Int)) (fun s : Nat => (s : Int) = (b).toInt) ((0 : Int32).toInt).toNat from (fun l hl => by have hz : ((0 : Int32).toInt).toNat = 0 := (by decide); rw [hz]; exact xr1_0 l (by omega))) (show (0 : Int32).toInt = (smC (fun s : Nat => ((cxP (fa 10 0) (iv 2 3).toInt (iv 2 4).toInt 0) s ∨ (cxP (fa 10 0) (iv 2 3).toInt (iv 2 4).toInt 1) s) ∧ (fun s : Nat => (s : Int) = (b).toInt) s) ((0 : Int32).toInt).toNat).toInt from (by have hz : ((0 : Int32).toInt).toNat = 0 := (by decide); rw [hz]; exact (by decide : (0 : Int32).toInt = 0))) (show (0 : Int32).toInt ≤ ((iv 10 1) : Int32).toInt from by omega) (show (0 : Int32).toInt ≤ (0 : Int32).toInt from by omega) (by first | decide | omega) _ _ ls hP hD hS (lv_sub hl [0, 1, 2, 3, 4] rfl)
