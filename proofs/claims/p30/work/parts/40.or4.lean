/-! ===== or4 ===== -/
set_option maxHeartbeats 4000000 in
set_option maxRecDepth 100000 in
/-- X12_findOrder -/
theorem c_X12_findOrder_o (l : Launch) (dC : Nat → ClassId) (dI : Nat → Nat → Nat) (sz : Nat) (h : Nat) (g : Nat → Nat → Nat) (ca : Nat → Nat → ClassId) (iv : Nat → Nat → Int32) (lv : Nat → Nat → Int64) (fa : Nat → Nat → Nat → Int32) (la : Nat → Nat → Nat → Int64) (hI : IX iv fa) (mm : Int32) (h_mm : 1 ≤ mm.toInt ∧ mm.toInt ≤ 3) : Met l yX12_findOrder (wc yX12_findOrder cX12_findOrder 7 none) ({ frames := 2, cells := 0, slots := 0, locals := 46 } : Room) (pW (dC, dI) classes (WM h g ca iv lv fa la) (TM ca) sz [.ref h, .int mm]) (va_Qv (fun (u : SS) => ∃ (na_12_59 : Nat → Int32) (ni_12_60 : Int32) (ni_12_61 : Int32), (wyM ((iv 12 57).toInt).toNat (fa 12 58) → (ni_12_61).toInt = (wyS (wyF (mm.toInt).toNat ((iv 12 57).toInt).toNat (fa 12 58)) 0 (1000000, 0) ((mm.toInt).toNat ^ ((iv 12 57).toInt).toNat)).1 ∧ (ni_12_60).toInt = (((wyS (wyF (mm.toInt).toNat ((iv 12 57).toInt).toNat (fa 12 58)) 0 (1000000, 0) ((mm.toInt).toNat ^ ((iv 12 57).toInt).toNat)).2 : Nat) : Int)) ∧ u = ((u2 (u2 iv 12 60 ni_12_60) 12 61 ni_12_61), lv, (u2 fa 12 59 na_12_59), la)) (bM (dC, dI) h g ca (va_A (WM h g ca iv lv fa la) sz)) (va_A (WM h g ca iv lv fa la) sz)) 0 0 (va_A (WM h g ca iv lv fa la) sz) := by
  refine Met.ofW (cc := cX12_findOrder) (maxL := 7) (ret := none) (by decide) rfl ?_
  intro p e s m args below meth c s₁ B hml hv
  obtain ⟨rfl, hsz, hP, hK, hD0⟩ := hv
  have hx := B.exec
  have hb := B.bytes
  have hr := B.returns
  have ht := tb_tl (atoms_spec (ws := wc yX12_findOrder cX12_findOrder 7 none) B.pre)
  have hown : s.vm.findClass RX12 = some m.cls := findClass_of_methodNamed B.named
  have hlocks := B.notSynchronized
  subst hsz
  have hD := hD0.self (sz := s.heap.size)
  generalize hAe : va_A (WM h g ca iv lv fa la) s.heap.size = A at hD ⊢
  have hA : ∀ q : Nat, s.heap.size ≤ q → A q := fun q h => by rw [← hAe]; exact Or.inr h
  have hS : va_S A s.heap s.heap [] := va_S.rf
  have hl := lv_entry [.ref h, .int mm] (n := 7) (Nat.le_of_ble_eq_true rfl)
  rw [lg_entry_eq]
  generalize (lg_sl [.ref h, .int mm] ++ List.replicate (7 - (lg_sl [.ref h, .int mm]).length) Slot.unset).toArray = ls at hl ⊢
  have hl : lv_has ls 7 [(0, .ref h), (1, .int mm)] := hl
  refine lv_aload_n hx hb dX12_findOrder_0 rfl (lv_at hl 0 rfl) ?_
  refine lv_iconst (v := (-1)) hx hb dX12_findOrder_1 (by decide) ?_
  refine pM_12_60 (v := (-1)) hx hb ht hown hK hP hD hS m_1199 dX12_findOrder_2 (fun H locs hP hD hS => ?_)
  refine lv_aload_n hx hb dX12_findOrder_5 rfl (lv_at hl 0 rfl) ?_
  refine lv_iconst (v := 0) hx hb dX12_findOrder_6 (by decide) ?_
  refine pM_12_61 (v := 0) hx hb ht hown hK hP hD hS m_1200 dX12_findOrder_7 (fun H locs hP hD hS => ?_)
  refine lv_iload_n hx hb dX12_findOrder_10 rfl (lv_at hl 1 rfl) ?_
  refine lv_aload_n hx hb dX12_findOrder_11 rfl (lv_at hl 0 rfl) ?_
  have i_12_57 : 0 ≤ (iv 12 57).toInt ∧ (iv 12 57).toInt ≤ 8 := hI.1 12 57
  refine gM_12_57 hx hb ht hown hK hP m_1196 (v := (iv 12 57)) rfl dX12_findOrder_12 ?_
  refine vp_callSi (W.runS (As := [.int mm, .int (iv 12 57)]) (rest := []) ⟨hx, hb, hml, hown, ht⟩ (c_X12_power_e l dC dI mm (iv 12 57) ⟨by omega, by omega⟩ ⟨by omega, by omega⟩) (kS 2 ht m_1649 m_1650 m_89 m_1651 rfl rfl hd_X12_power_v ⟨Nat.le_of_ble_eq_true rfl, Nat.le_of_ble_eq_true rfl⟩) (sR noP (hK.sub (tys' := []) [] rfl)) rfl rfl hl.1 rfl (lv_room (Nat.le_of_ble_eq_true rfl)) dX12_findOrder_15 ⟨Nat.le_of_ble_eq_true rfl, Nat.le_of_ble_eq_true rfl⟩) (fun r1 hr1 => ?_)
  obtain ⟨hr1, xr1_0⟩ := hr1
  have xr1_0 : (r1 : Int32).toInt = ((((mm : Int32).toInt).toNat ^ (((iv 12 57) : Int32).toInt).toNat : Nat) : Int) := xr1_0
  refine lv_istore_n (lv' := [(2, .int r1), (0, .ref h), (1, .int mm)]) hx hb dX12_findOrder_18 rfl hl (by decide) rfl (fun ls hl => ?_)
  refine lv_iconst (v := 0) hx hb dX12_findOrder_19 (by decide) ?_
  refine lv_istore_n (lv' := [(3, .int 0), (2, .int r1), (0, .ref h), (1, .int mm)]) hx hb dX12_findOrder_20 rfl hl (by decide) rfl (fun ls hl => ?_)
  have lp8073 : ∀ (nn8073 : Nat) (x8072_3 : Int32) (w8072_i_12_60 : Int32) (w8072_i_12_61 : Int32) (w8072_a_12_59 : Nat → Int32), 0 ≤ x8072_3.toInt ∧ x8072_3.toInt ≤ 9999 → (∀ j, inb (bA 12 59 j) (w8072_a_12_59 j)) → (wyM ((iv 12 57).toInt).toNat (fa 12 58) → wyA (wyF ((mm).toInt).toNat ((iv 12 57).toInt).toNat (fa 12 58)) ((x8072_3 : Int32).toInt).toNat (w8072_i_12_60 : Int32).toInt (w8072_i_12_61 : Int32).toInt) → (x8072_3 : Int32).toInt ≤ (r1 : Int32).toInt → 9999 - x8072_3.toInt < (nn8073 : Int) → ∀ (H : Heap) (locs : List Loc), ∀ (ls : Array Slot), va_P (dC, dI) classes (WM h g ca (u2 (u2 iv 12 60 w8072_i_12_60) 12 61 w8072_i_12_61) lv (u2 fa 12 59 w8072_a_12_59) la) H → va_D A (WM h g ca (u2 (u2 iv 12 60 w8072_i_12_60) 12 61 w8072_i_12_61) lv (u2 fa 12 59 w8072_a_12_59) la) → va_S A s.heap H locs → lv_has ls 7 [(3, .int x8072_3), (2, .int r1), (0, .ref h), (1, .int mm)] → W p l e ({ frames := 2, cells := 0, slots := 0, locals := 46 } : Room) s m ([.ref h, .int mm] : List Value).toArray below meth c H locs 0 0 (MQ below (va_Qv (fun (u : SS) => ∃ (na_12_59 : Nat → Int32) (ni_12_60 : Int32) (ni_12_61 : Int32), (wyM ((iv 12 57).toInt).toNat (fa 12 58) → (ni_12_61).toInt = (wyS (wyF (mm.toInt).toNat ((iv 12 57).toInt).toNat (fa 12 58)) 0 (1000000, 0) ((mm.toInt).toNat ^ ((iv 12 57).toInt).toNat)).1 ∧ (ni_12_60).toInt = (((wyS (wyF (mm.toInt).toNat ((iv 12 57).toInt).toNat (fa 12 58)) 0 (1000000, 0) ((mm.toInt).toNat ^ ((iv 12 57).toInt).toNat)).2 : Nat) : Int)) ∧ u = ((u2 (u2 iv 12 60 ni_12_60) 12 61 ni_12_61), lv, (u2 fa 12 59 na_12_59), la)) (bM (dC, dI) h g ca A) A) ([.ref h, .int mm] : List Value).toArray s 0 0 A) (F0 m 21 ls []) := by
    intro nn8073
    induction nn8073 with
    | zero => intro x8072_3 w8072_i_12_60 w8072_i_12_61 w8072_a_12_59 hx8072_3 hw8072_a_12_59 hq8073_0 hq8073_1 hm8073; exfalso; omega
    | succ nn8073 ih8073 =>
      intro x8072_3 w8072_i_12_60 w8072_i_12_61 w8072_a_12_59 hx8072_3 hw8072_a_12_59 hq8073_0 hq8073_1 hm8073 H locs ls hP hD hS hl
      refine lv_iload_n hx hb dX12_findOrder_21 rfl (lv_at hl 0 rfl) ?_
      refine lv_iload_n hx hb dX12_findOrder_22 rfl (lv_at hl 1 rfl) ?_
      refine lv_icmp_ge (tgt := 156) hx hb dX12_findOrder_23 (by decide) (fun c8074 => ?_) (fun c8074 => ?_)
      · have fc8074 := z_le (rfl : (r1).toInt = _) (rfl : (x8072_3).toInt = _) c8074
        have hP9 : va_P (dC, dI) classes (WM h g ca (u2 (u2 iv 12 60 w8072_i_12_60) 12 61 w8072_i_12_61) lv (u2 fa 12 59 w8072_a_12_59) la) H := hP
        have hD9 : va_D A (WM h g ca (u2 (u2 iv 12 60 w8072_i_12_60) 12 61 w8072_i_12_61) lv (u2 fa 12 59 w8072_a_12_59) la) := hD
        exact W.vret hx hb hr (fun t ht9 hW => ⟨⟨((u2 (u2 iv 12 60 w8072_i_12_60) 12 61 w8072_i_12_61), lv, (u2 fa 12 59 w8072_a_12_59), la), rfl, ⟨w8072_a_12_59, w8072_i_12_60, w8072_i_12_61, (show wyM ((iv 12 57).toInt).toNat (fa 12 58) → (w8072_i_12_61 : Int32).toInt = (wyS (wyF ((mm).toInt).toNat ((iv 12 57).toInt).toNat (fa 12 58)) 0 (1000000, 0) (((mm).toInt).toNat ^ ((iv 12 57).toInt).toNat)).1 ∧ (w8072_i_12_60 : Int32).toInt = (((wyS (wyF ((mm).toInt).toNat ((iv 12 57).toInt).toNat (fa 12 58)) 0 (1000000, 0) (((mm).toInt).toNat ^ ((iv 12 57).toInt).toNat)).2 : Nat) : Int) from (fun hb => by
              have hp9 := xr1_0
              obtain ⟨T9, hT9⟩ : ∃ T : Nat, T = ((mm).toInt).toNat ^ ((iv 12 57).toInt).toNat := ⟨_, rfl⟩
              rw [← hT9] at hp9 ⊢
              exact wyA_end (hq8073_0 hb) (by omega) (by omega))), rfl⟩, by rw [ht9]; exact hP9, hD9⟩, hS.F ht9⟩) hS.2.2 dX12_findOrder_156
      · have fc8074 := z_nle (rfl : (r1).toInt = _) (rfl : (x8072_3).toInt = _) c8074
        refine lv_iconst (v := 0) hx hb dX12_findOrder_26 (by decide) ?_
        refine lv_istore (lv' := [(4, .int 0), (3, .int x8072_3), (2, .int r1), (0, .ref h), (1, .int mm)]) hx hb dX12_findOrder_27 hl (by decide) rfl (fun ls hl => ?_)
        refine lv_iload hx hb dX12_findOrder_29 (lv_at hl 0 rfl) ?_
        refine lv_iconst (v := 3) hx hb dX12_findOrder_31 (by decide) ?_
        refine lv_icmp_ge (tgt := 49) hx hb dX12_findOrder_32 (by decide) (fun c8075 => ?_) (fun c8075 => ?_)
        · exact absurd c8075 (by decide)
        · skip
          refine lv_aload_n hx hb dX12_findOrder_35 rfl (lv_at hl 3 rfl) ?_
          refine gM_12_59 hx hb ht hown hK hP m_1198 dX12_findOrder_36 ?_
          refine lv_iload hx hb dX12_findOrder_39 (lv_at hl 0 rfl) ?_
          refine lv_iconst (v := 0) hx hb dX12_findOrder_41 (by decide) ?_
          refine tM_12_59 hx hb hK hP hD hS (f0 := w8072_a_12_59) rfl (i := 0) (x := 0) (vp_in_iff.mpr (by decide)) dX12_findOrder_42 (fun f8076 ef8076 H locs hP hD hS => ?_)
          have hf8076 : ∀ j, inb (bA 12 59 j) (f8076 j) := fun j => full_i _
          have hP : va_P (dC, dI) classes (WM h g ca (u2 (u2 iv 12 60 w8072_i_12_60) 12 61 w8072_i_12_61) lv (u2 fa 12 59 f8076) la) H := hP
          have hD : va_D A (WM h g ca (u2 (u2 iv 12 60 w8072_i_12_60) 12 61 w8072_i_12_61) lv (u2 fa 12 59 f8076) la) := hD
          refine lv_iinc (v := 1) (lv' := [(4, .int 1), (3, .int x8072_3), (2, .int r1), (0, .ref h), (1, .int mm)]) hx hb dX12_findOrder_43 hl (k := 0) rfl (by decide) (by decide) rfl (fun ls hl => ?_)
          refine lv_goto (tgt := 29) hx hb dX12_findOrder_46 (by decide) ?_
          refine lv_iload hx hb dX12_findOrder_29 (lv_at hl 0 rfl) ?_
          refine lv_iconst (v := 3) hx hb dX12_findOrder_31 (by decide) ?_
          refine lv_icmp_ge (tgt := 49) hx hb dX12_findOrder_32 (by decide) (fun c8077 => ?_) (fun c8077 => ?_)
          · exact absurd c8077 (by decide)
          · skip
            refine lv_aload_n hx hb dX12_findOrder_35 rfl (lv_at hl 3 rfl) ?_
            refine gM_12_59 hx hb ht hown hK hP m_1198 dX12_findOrder_36 ?_
            refine lv_iload hx hb dX12_findOrder_39 (lv_at hl 0 rfl) ?_
            refine lv_iconst (v := 0) hx hb dX12_findOrder_41 (by decide) ?_
            refine tM_12_59 hx hb hK hP hD hS (f0 := f8076) rfl (i := 1) (x := 0) (vp_in_iff.mpr (by decide)) dX12_findOrder_42 (fun f8078 ef8078 H locs hP hD hS => ?_)
            have hf8078 : ∀ j, inb (bA 12 59 j) (f8078 j) := fun j => full_i _
            have hP : va_P (dC, dI) classes (WM h g ca (u2 (u2 iv 12 60 w8072_i_12_60) 12 61 w8072_i_12_61) lv (u2 fa 12 59 f8078) la) H := hP
            have hD : va_D A (WM h g ca (u2 (u2 iv 12 60 w8072_i_12_60) 12 61 w8072_i_12_61) lv (u2 fa 12 59 f8078) la) := hD
            refine lv_iinc (v := 2) (lv' := [(4, .int 2), (3, .int x8072_3), (2, .int r1), (0, .ref h), (1, .int mm)]) hx hb dX12_findOrder_43 hl (k := 0) rfl (by decide) (by decide) rfl (fun ls hl => ?_)
            refine lv_goto (tgt := 29) hx hb dX12_findOrder_46 (by decide) ?_
            refine lv_iload hx hb dX12_findOrder_29 (lv_at hl 0 rfl) ?_
            refine lv_iconst (v := 3) hx hb dX12_findOrder_31 (by decide) ?_
            refine lv_icmp_ge (tgt := 49) hx hb dX12_findOrder_32 (by decide) (fun c8079 => ?_) (fun c8079 => ?_)
            · exact absurd c8079 (by decide)
            · skip
              refine lv_aload_n hx hb dX12_findOrder_35 rfl (lv_at hl 3 rfl) ?_
              refine gM_12_59 hx hb ht hown hK hP m_1198 dX12_findOrder_36 ?_
              refine lv_iload hx hb dX12_findOrder_39 (lv_at hl 0 rfl) ?_
              refine lv_iconst (v := 0) hx hb dX12_findOrder_41 (by decide) ?_
              refine tM_12_59 hx hb hK hP hD hS (f0 := f8078) rfl (i := 2) (x := 0) (vp_in_iff.mpr (by decide)) dX12_findOrder_42 (fun f8080 ef8080 H locs hP hD hS => ?_)
              have hf8080 : ∀ j, inb (bA 12 59 j) (f8080 j) := fun j => full_i _
              have hP : va_P (dC, dI) classes (WM h g ca (u2 (u2 iv 12 60 w8072_i_12_60) 12 61 w8072_i_12_61) lv (u2 fa 12 59 f8080) la) H := hP
              have hD : va_D A (WM h g ca (u2 (u2 iv 12 60 w8072_i_12_60) 12 61 w8072_i_12_61) lv (u2 fa 12 59 f8080) la) := hD
              refine lv_iinc (v := 3) (lv' := [(4, .int 3), (3, .int x8072_3), (2, .int r1), (0, .ref h), (1, .int mm)]) hx hb dX12_findOrder_43 hl (k := 0) rfl (by decide) (by decide) rfl (fun ls hl => ?_)
              refine lv_goto (tgt := 29) hx hb dX12_findOrder_46 (by decide) ?_
              refine lv_iload hx hb dX12_findOrder_29 (lv_at hl 0 rfl) ?_
              refine lv_iconst (v := 3) hx hb dX12_findOrder_31 (by decide) ?_
              refine lv_icmp_ge (tgt := 49) hx hb dX12_findOrder_32 (by decide) (fun c8081 => ?_) (fun c8081 => ?_)
              · skip
                refine lv_iconst (v := 0) hx hb dX12_findOrder_49 (by decide) ?_
                refine lv_istore (lv' := [(4, .int 0), (3, .int x8072_3), (2, .int r1), (0, .ref h), (1, .int mm)]) hx hb dX12_findOrder_50 hl (by decide) rfl (fun ls hl => ?_)
                refine lv_iconst (v := 0) hx hb dX12_findOrder_52 (by decide) ?_
                refine lv_istore (lv' := [(5, .int 0), (4, .int 0), (3, .int x8072_3), (2, .int r1), (0, .ref h), (1, .int mm)]) hx hb dX12_findOrder_53 hl (by decide) rfl (fun ls hl => ?_)
                have lp8236 : ∀ (nn8236 : Nat) (x8235_5 : Int32) (x8235_4 : Int32) (w8235_a_12_59 : Nat → Int32), 0 ≤ x8235_5.toInt ∧ x8235_5.toInt ≤ 8 → 0 ≤ x8235_4.toInt → (∀ j, inb (bA 12 59 j) (w8235_a_12_59 j)) → (∀ o : Nat, o < 3 → w8235_a_12_59 o = wyE (wyD ((mm).toInt).toNat ((iv 12 57).toInt).toNat ((x8072_3 : Int32).toInt).toNat) (fa 12 58) o ((x8235_5 : Int32).toInt).toNat) → ((x8235_4 : Int32).toInt = wyL (wyD ((mm).toInt).toNat ((iv 12 57).toInt).toNat ((x8072_3 : Int32).toInt).toNat) (fa 12 58) ((x8235_5 : Int32).toInt).toNat) → (x8235_5 : Int32).toInt ≤ ((iv 12 57) : Int32).toInt → 8 - x8235_5.toInt < (nn8236 : Int) → ∀ (H : Heap) (locs : List Loc), ∀ (ls : Array Slot), va_P (dC, dI) classes (WM h g ca (u2 (u2 iv 12 60 w8072_i_12_60) 12 61 w8072_i_12_61) lv (u2 fa 12 59 w8235_a_12_59) la) H → va_D A (WM h g ca (u2 (u2 iv 12 60 w8072_i_12_60) 12 61 w8072_i_12_61) lv (u2 fa 12 59 w8235_a_12_59) la) → va_S A s.heap H locs → lv_has ls 7 [(5, .int x8235_5), (4, .int x8235_4), (3, .int x8072_3), (2, .int r1), (0, .ref h), (1, .int mm)] → W p l e ({ frames := 2, cells := 0, slots := 0, locals := 46 } : Room) s m ([.ref h, .int mm] : List Value).toArray below meth c H locs 0 0 (MQ below (va_Qv (fun (u : SS) => ∃ (na_12_59 : Nat → Int32) (ni_12_60 : Int32) (ni_12_61 : Int32), (wyM ((iv 12 57).toInt).toNat (fa 12 58) → (ni_12_61).toInt = (wyS (wyF (mm.toInt).toNat ((iv 12 57).toInt).toNat (fa 12 58)) 0 (1000000, 0) ((mm.toInt).toNat ^ ((iv 12 57).toInt).toNat)).1 ∧ (ni_12_60).toInt = (((wyS (wyF (mm.toInt).toNat ((iv 12 57).toInt).toNat (fa 12 58)) 0 (1000000, 0) ((mm.toInt).toNat ^ ((iv 12 57).toInt).toNat)).2 : Nat) : Int)) ∧ u = ((u2 (u2 iv 12 60 ni_12_60) 12 61 ni_12_61), lv, (u2 fa 12 59 na_12_59), la)) (bM (dC, dI) h g ca A) A) ([.ref h, .int mm] : List Value).toArray s 0 0 A) (F0 m 55 ls []) := by
                  intro nn8236
                  induction nn8236 with
                  | zero => intro x8235_5 x8235_4 w8235_a_12_59 hx8235_5 hx8235_4 hw8235_a_12_59 hq8236_0 hq8236_1 hq8236_2 hm8236; exfalso; omega
                  | succ nn8236 ih8236 =>
                    intro x8235_5 x8235_4 w8235_a_12_59 hx8235_5 hx8235_4 hw8235_a_12_59 hq8236_0 hq8236_1 hq8236_2 hm8236 H locs ls hP hD hS hl
                    refine lv_iload hx hb dX12_findOrder_55 (lv_at hl 0 rfl) ?_
                    refine lv_aload_n hx hb dX12_findOrder_57 rfl (lv_at hl 4 rfl) ?_
                    refine gM_12_57 hx hb ht hown hK hP m_1196 (v := (iv 12 57)) rfl dX12_findOrder_58 ?_
                    refine lv_icmp_ge (tgt := 123) hx hb dX12_findOrder_61 (by decide) (fun c8237 => ?_) (fun c8237 => ?_)
                    · have fc8237 := z_le (rfl : ((iv 12 57)).toInt = _) (rfl : (x8235_5).toInt = _) c8237
                      refine lv_aload_n hx hb dX12_findOrder_123 rfl (lv_at hl 4 rfl) ?_
                      refine gM_12_60 hx hb ht hown hK hP m_1199 (v := w8072_i_12_60) rfl dX12_findOrder_124 ?_
                      refine lv_if_lt (tgt := 139) hx hb dX12_findOrder_127 (by decide) (fun c8238 => ?_) (fun c8238 => ?_)
                      · have fc8238 := z_lt (rfl : (w8072_i_12_60).toInt = _) (by decide : (0 : Int32).toInt = 0) c8238
                        refine lv_aload_n hx hb dX12_findOrder_139 rfl (lv_at hl 4 rfl) ?_
                        refine lv_iload_n hx hb dX12_findOrder_140 rfl (lv_at hl 2 rfl) ?_
                        refine pM_12_60 (v := x8072_3) hx hb ht hown hK hP hD hS m_1199 dX12_findOrder_141 (fun H locs hP hD hS => ?_)
                        have hP : va_P (dC, dI) classes (WM h g ca (u2 (u2 iv 12 60 x8072_3) 12 61 w8072_i_12_61) lv (u2 fa 12 59 w8235_a_12_59) la) H := hP
                        have hD : va_D A (WM h g ca (u2 (u2 iv 12 60 x8072_3) 12 61 w8072_i_12_61) lv (u2 fa 12 59 w8235_a_12_59) la) := hD
                        refine lv_aload_n hx hb dX12_findOrder_144 rfl (lv_at hl 4 rfl) ?_
                        refine lv_iload hx hb dX12_findOrder_145 (lv_at hl 1 rfl) ?_
                        refine pM_12_61 (v := x8235_4) hx hb ht hown hK hP hD hS m_1200 dX12_findOrder_147 (fun H locs hP hD hS => ?_)
                        have hP : va_P (dC, dI) classes (WM h g ca (u2 (u2 iv 12 60 x8072_3) 12 61 x8235_4) lv (u2 fa 12 59 w8235_a_12_59) la) H := hP
                        have hD : va_D A (WM h g ca (u2 (u2 iv 12 60 x8072_3) 12 61 x8235_4) lv (u2 fa 12 59 w8235_a_12_59) la) := hD
                        obtain ⟨v8239, ev8239⟩ : ∃ y : Int32, y = x8072_3 + 1 := ⟨_, rfl⟩
                        have tv8239 := z_add ev8239 rfl (by decide : (1 : Int32).toInt = 1) (by omega) (by omega)
                        refine lv_iinc (v := v8239) (lv' := [(3, .int v8239), (5, .int x8235_5), (4, .int x8235_4), (2, .int r1), (0, .ref h), (1, .int mm)]) hx hb dX12_findOrder_150 hl (k := 2) rfl (by rw [ev8239]; rfl) (by decide) rfl (fun ls hl => ?_)
                        refine lv_goto (tgt := 21) hx hb dX12_findOrder_153 (by decide) ?_
                        exact ih8073 v8239 x8072_3 x8235_4 w8235_a_12_59 ⟨by omega, by omega⟩ hw8235_a_12_59 (show wyM ((iv 12 57).toInt).toNat (fa 12 58) → wyA (wyF ((mm).toInt).toNat ((iv 12 57).toInt).toNat (fa 12 58)) ((v8239 : Int32).toInt).toNat (x8072_3 : Int32).toInt (x8235_4 : Int32).toInt from (fun hb => by
                              have hl9 := hq8236_1
                              rw [show ((x8235_5 : Int32).toInt).toNat = ((iv 12 57).toInt).toNat from by omega] at hl9
                              have h0 : 0 ≤ (iv 12 57).toInt ∧ (iv 12 57).toInt ≤ 8 := hI.1 12 57
                              exact wyA_st (show ((v8239 : Int32).toInt).toNat = ((x8072_3 : Int32).toInt).toNat + 1 from by omega) (hq8073_0 hb) (wyF_b (by omega) hb) hl9 (Or.inl ⟨by omega, by omega, by omega⟩))) (show (v8239 : Int32).toInt ≤ (r1 : Int32).toInt from by omega) (by omega) _ _ ls hP hD hS (lv_sub hl [0, 3, 4, 5] rfl)
                      · have fc8238 := z_nlt (rfl : (w8072_i_12_60).toInt = _) (by decide : (0 : Int32).toInt = 0) c8238
                        refine lv_iload hx hb dX12_findOrder_130 (lv_at hl 1 rfl) ?_
                        refine lv_aload_n hx hb dX12_findOrder_132 rfl (lv_at hl 4 rfl) ?_
                        refine gM_12_61 hx hb ht hown hK hP m_1200 (v := w8072_i_12_61) rfl dX12_findOrder_133 ?_
                        refine lv_icmp_ge (tgt := 150) hx hb dX12_findOrder_136 (by decide) (fun c8240 => ?_) (fun c8240 => ?_)
                        · have fc8240 := z_le (rfl : (w8072_i_12_61).toInt = _) (rfl : (x8235_4).toInt = _) c8240
                          obtain ⟨v8241, ev8241⟩ : ∃ y : Int32, y = x8072_3 + 1 := ⟨_, rfl⟩
                          have tv8241 := z_add ev8241 rfl (by decide : (1 : Int32).toInt = 1) (by omega) (by omega)
                          refine lv_iinc (v := v8241) (lv' := [(3, .int v8241), (5, .int x8235_5), (4, .int x8235_4), (2, .int r1), (0, .ref h), (1, .int mm)]) hx hb dX12_findOrder_150 hl (k := 2) rfl (by rw [ev8241]; rfl) (by decide) rfl (fun ls hl => ?_)
                          refine lv_goto (tgt := 21) hx hb dX12_findOrder_153 (by decide) ?_
                          exact ih8073 v8241 w8072_i_12_60 w8072_i_12_61 w8235_a_12_59 ⟨by omega, by omega⟩ hw8235_a_12_59 (show wyM ((iv 12 57).toInt).toNat (fa 12 58) → wyA (wyF ((mm).toInt).toNat ((iv 12 57).toInt).toNat (fa 12 58)) ((v8241 : Int32).toInt).toNat (w8072_i_12_60 : Int32).toInt (w8072_i_12_61 : Int32).toInt from (fun hb => by
                                have hl9 := hq8236_1
                                rw [show ((x8235_5 : Int32).toInt).toNat = ((iv 12 57).toInt).toNat from by omega] at hl9
                                have h0 : 0 ≤ (iv 12 57).toInt ∧ (iv 12 57).toInt ≤ 8 := hI.1 12 57
                                exact wyA_st (show ((v8241 : Int32).toInt).toNat = ((x8072_3 : Int32).toInt).toNat + 1 from by omega) (hq8073_0 hb) (wyF_b (by omega) hb) hl9 (Or.inr ⟨by omega, by omega, by omega, by omega⟩))) (show (v8241 : Int32).toInt ≤ (r1 : Int32).toInt from by omega) (by omega) _ _ ls hP hD hS (lv_sub hl [0, 3, 4, 5] rfl)
                        · have fc8240 := z_nle (rfl : (w8072_i_12_61).toInt = _) (rfl : (x8235_4).toInt = _) c8240
                          refine lv_aload_n hx hb dX12_findOrder_139 rfl (lv_at hl 4 rfl) ?_
                          refine lv_iload_n hx hb dX12_findOrder_140 rfl (lv_at hl 2 rfl) ?_
                          refine pM_12_60 (v := x8072_3) hx hb ht hown hK hP hD hS m_1199 dX12_findOrder_141 (fun H locs hP hD hS => ?_)
                          have hP : va_P (dC, dI) classes (WM h g ca (u2 (u2 iv 12 60 x8072_3) 12 61 w8072_i_12_61) lv (u2 fa 12 59 w8235_a_12_59) la) H := hP
                          have hD : va_D A (WM h g ca (u2 (u2 iv 12 60 x8072_3) 12 61 w8072_i_12_61) lv (u2 fa 12 59 w8235_a_12_59) la) := hD
                          refine lv_aload_n hx hb dX12_findOrder_144 rfl (lv_at hl 4 rfl) ?_
                          refine lv_iload hx hb dX12_findOrder_145 (lv_at hl 1 rfl) ?_
                          refine pM_12_61 (v := x8235_4) hx hb ht hown hK hP hD hS m_1200 dX12_findOrder_147 (fun H locs hP hD hS => ?_)
                          have hP : va_P (dC, dI) classes (WM h g ca (u2 (u2 iv 12 60 x8072_3) 12 61 x8235_4) lv (u2 fa 12 59 w8235_a_12_59) la) H := hP
                          have hD : va_D A (WM h g ca (u2 (u2 iv 12 60 x8072_3) 12 61 x8235_4) lv (u2 fa 12 59 w8235_a_12_59) la) := hD
                          obtain ⟨v8242, ev8242⟩ : ∃ y : Int32, y = x8072_3 + 1 := ⟨_, rfl⟩
                          have tv8242 := z_add ev8242 rfl (by decide : (1 : Int32).toInt = 1) (by omega) (by omega)
                          refine lv_iinc (v := v8242) (lv' := [(3, .int v8242), (5, .int x8235_5), (4, .int x8235_4), (2, .int r1), (0, .ref h), (1, .int mm)]) hx hb dX12_findOrder_150 hl (k := 2) rfl (by rw [ev8242]; rfl) (by decide) rfl (fun ls hl => ?_)
                          refine lv_goto (tgt := 21) hx hb dX12_findOrder_153 (by decide) ?_
                          exact ih8073 v8242 x8072_3 x8235_4 w8235_a_12_59 ⟨by omega, by omega⟩ hw8235_a_12_59 (show wyM ((iv 12 57).toInt).toNat (fa 12 58) → wyA (wyF ((mm).toInt).toNat ((iv 12 57).toInt).toNat (fa 12 58)) ((v8242 : Int32).toInt).toNat (x8072_3 : Int32).toInt (x8235_4 : Int32).toInt from (fun hb => by
                                have hl9 := hq8236_1
                                rw [show ((x8235_5 : Int32).toInt).toNat = ((iv 12 57).toInt).toNat from by omega] at hl9
                                have h0 : 0 ≤ (iv 12 57).toInt ∧ (iv 12 57).toInt ≤ 8 := hI.1 12 57
                                exact wyA_st (show ((v8242 : Int32).toInt).toNat = ((x8072_3 : Int32).toInt).toNat + 1 from by omega) (hq8073_0 hb) (wyF_b (by omega) hb) hl9 (Or.inl ⟨by omega, by omega, by omega⟩))) (show (v8242 : Int32).toInt ≤ (r1 : Int32).toInt from by omega) (by omega) _ _ ls hP hD hS (lv_sub hl [0, 3, 4, 5] rfl)
                    · have fc8237 := z_nle (rfl : ((iv 12 57)).toInt = _) (rfl : (x8235_5).toInt = _) c8237
                      refine lv_aload_n hx hb dX12_findOrder_64 rfl (lv_at hl 4 rfl) ?_
                      refine lv_iload_n hx hb dX12_findOrder_65 rfl (lv_at hl 2 rfl) ?_
                      refine lv_iload_n hx hb dX12_findOrder_66 rfl (lv_at hl 5 rfl) ?_
                      refine lv_iload hx hb dX12_findOrder_67 (lv_at hl 0 rfl) ?_
                      refine vp_callSi (W.runV (As := [.int x8072_3, .int mm, .int x8235_5]) (rest := []) ⟨hx, hb, hml, hown, ht⟩ (c_X12_ovenOf_w0 l dC dI h g ca (u2 (u2 iv 12 60 w8072_i_12_60) 12 61 w8072_i_12_61) lv (u2 fa 12 59 w8235_a_12_59) la (IX_a (c := 12) (k := 59) (IX_i (c := 12) (k := 61) (IX_i (c := 12) (k := 60) hI (full_i _)) (full_i _)) hw8235_a_12_59) x8072_3 mm x8235_5 (show 1 ≤ ((iv 12 57) : Int32).toInt ∧ ((iv 12 57) : Int32).toInt ≤ 8 from ⟨by omega, by omega⟩) ⟨by omega, by omega⟩ ⟨by omega, by omega⟩ ⟨by omega, by omega⟩ (show (x8235_5 : Int32).toInt + 1 ≤ ((iv 12 57) : Int32).toInt from by omega)) (kV 3 ht m_1652 m_1654 m_70 m_89 m_1655 rfl rfl hd_X12_ovenOf_v ⟨Nat.le_of_ble_eq_true rfl, Nat.le_of_ble_eq_true rfl⟩) (vR hP hK (rM_12 hK hP)) rfl rfl hl.1 rfl (lv_room (Nat.le_of_ble_eq_true rfl)) dX12_findOrder_69 ⟨Nat.le_of_ble_eq_true rfl, Nat.le_of_ble_eq_true rfl⟩) (fun r8243 hr8243 => ?_)
                      obtain ⟨hr8243, xr8243_0⟩ := hr8243
                      have xr8243_0 : 0 ≤ (x8072_3 : Int32).toInt → (r8243 : Int32).toInt = ((wyD ((mm : Int32).toInt).toNat (((iv 12 57) : Int32).toInt).toNat ((x8072_3 : Int32).toInt).toNat ((x8235_5 : Int32).toInt).toNat : Nat) : Int) := xr8243_0
                      refine lv_istore (lv' := [(6, .int r8243), (5, .int x8235_5), (4, .int x8235_4), (3, .int x8072_3), (2, .int r1), (0, .ref h), (1, .int mm)]) hx hb dX12_findOrder_72 hl (by decide) rfl (fun ls hl => ?_)
                      refine lv_aload_n hx hb dX12_findOrder_74 rfl (lv_at hl 5 rfl) ?_
                      refine gM_12_59 hx hb ht hown hK hP m_1198 dX12_findOrder_75 ?_
                      refine lv_iload hx hb dX12_findOrder_78 (lv_at hl 0 rfl) ?_
                      refine lv_dup2_11 hx hb dX12_findOrder_80 rfl rfl ?_
                      refine lM_12_59 hx hb hK hP (f := w8235_a_12_59) rfl (vp_in_iff.mpr ⟨by omega, by omega⟩) dX12_findOrder_81 ?_
                      refine lv_topi (fun v8244 ev8244 => ?_)
                      refine lv_aload_n hx hb dX12_findOrder_82 rfl (lv_at hl 5 rfl) ?_
                      refine gM_12_58 hx hb ht hown hK hP m_1197 dX12_findOrder_83 ?_
                      refine lv_iload hx hb dX12_findOrder_86 (lv_at hl 1 rfl) ?_
                      refine lM_12_58 hx hb hK hP (f := (fa 12 58)) rfl (vp_in_iff.mpr ⟨by omega, by omega⟩) dX12_findOrder_88 ?_
                      refine lv_topi (fun v8245 ev8245 => ?_)
                      refine lv_iadd hx hb dX12_findOrder_89 ?_
                      refine lv_topi (fun v8246 ev8246 => ?_)
                      refine tM_12_59 hx hb hK hP hD hS (f0 := w8235_a_12_59) rfl (i := r8243) (x := v8246) (vp_in_iff.mpr ⟨by omega, by omega⟩) dX12_findOrder_90 (fun f8247 ef8247 H locs hP hD hS => ?_)
                      have hf8247 : ∀ j, inb (bA 12 59 j) (f8247 j) := fun j => full_i _
                      have hP : va_P (dC, dI) classes (WM h g ca (u2 (u2 iv 12 60 w8072_i_12_60) 12 61 w8072_i_12_61) lv (u2 fa 12 59 f8247) la) H := hP
                      have hD : va_D A (WM h g ca (u2 (u2 iv 12 60 w8072_i_12_60) 12 61 w8072_i_12_61) lv (u2 fa 12 59 f8247) la) := hD
                      refine lv_aload_n hx hb dX12_findOrder_91 rfl (lv_at hl 5 rfl) ?_
                      refine gM_12_59 hx hb ht hown hK hP m_1198 dX12_findOrder_92 ?_
                      refine lv_iload hx hb dX12_findOrder_95 (lv_at hl 0 rfl) ?_
                      refine lM_12_59 hx hb hK hP (f := f8247) rfl (vp_in_iff.mpr ⟨by omega, by omega⟩) dX12_findOrder_97 ?_
                      refine lv_topi (fun v8248 ev8248 => ?_)
                      refine lv_iload hx hb dX12_findOrder_98 (lv_at hl 2 rfl) ?_
                      refine lv_icmp_le (tgt := 113) hx hb dX12_findOrder_100 (by decide) (fun c8249 => ?_) (fun c8249 => ?_)
                      · have fc8249 := z_le (rfl : (v8248).toInt = _) (rfl : (x8235_4).toInt = _) c8249
                        refine lv_iload hx hb dX12_findOrder_113 (lv_at hl 2 rfl) ?_
                        refine lv_istore (lv' := [(4, .int x8235_4), (6, .int r8243), (5, .int x8235_5), (3, .int x8072_3), (2, .int r1), (0, .ref h), (1, .int mm)]) hx hb dX12_findOrder_115 hl (by decide) rfl (fun ls hl => ?_)
                        obtain ⟨v8250, ev8250⟩ : ∃ y : Int32, y = x8235_5 + 1 := ⟨_, rfl⟩
                        have tv8250 := z_add ev8250 rfl (by decide : (1 : Int32).toInt = 1) (by omega) (by omega)
                        refine lv_iinc (v := v8250) (lv' := [(5, .int v8250), (4, .int x8235_4), (6, .int r8243), (3, .int x8072_3), (2, .int r1), (0, .ref h), (1, .int mm)]) hx hb dX12_findOrder_117 hl (k := 2) rfl (by rw [ev8250]; rfl) (by decide) rfl (fun ls hl => ?_)
                        refine lv_goto (tgt := 55) hx hb dX12_findOrder_120 (by decide) ?_
                        exact ih8236 v8250 x8235_4 f8247 ⟨by omega, by omega⟩ (by omega) hf8247 (show ∀ o : Nat, o < 3 → f8247 o = wyE (wyD ((mm).toInt).toNat ((iv 12 57).toInt).toNat ((x8072_3 : Int32).toInt).toNat) (fa 12 58) o ((v8250 : Int32).toInt).toNat from (by
                              have hs9 : ((v8250 : Int32).toInt).toNat = ((x8235_5 : Int32).toInt).toNat + 1 := by omega
                              have hR9 : (r8243 : Int32).toNatClampNeg = ((r8243 : Int32).toInt).toNat := rfl
                              have hx9 := xr8243_0 (by omega)
                              have hd9 : (wyD ((mm).toInt).toNat ((iv 12 57).toInt).toNat ((x8072_3 : Int32).toInt).toNat) ((x8235_5 : Int32).toInt).toNat = ((r8243 : Int32).toInt).toNat := by omega
                              have hfa : f8247 ((r8243 : Int32).toInt).toNat = w8235_a_12_59 ((r8243 : Int32).toInt).toNat + fa 12 58 ((x8235_5 : Int32).toInt).toNat := by
                                have y1 : f8247 ((r8243 : Int32).toInt).toNat = v8246 := by rw [ef8247, hR9]; exact upd_eq
                                rw [y1, ev8246, ev8244, ev8245]; rfl
                              have hfb : ∀ j : Nat, j ≠ ((r8243 : Int32).toInt).toNat → f8247 j = w8235_a_12_59 j := fun j hj => by rw [ef8247, hR9, upd_ne hj]
                              exact wyE_st hs9 hq8236_0 hd9 hfa hfb)) (show (x8235_4 : Int32).toInt = wyL (wyD ((mm).toInt).toNat ((iv 12 57).toInt).toNat ((x8072_3 : Int32).toInt).toNat) (fa 12 58) ((v8250 : Int32).toInt).toNat from (by
                              have hs9 : ((v8250 : Int32).toInt).toNat = ((x8235_5 : Int32).toInt).toNat + 1 := by omega
                              have hR9 : (r8243 : Int32).toNatClampNeg = ((r8243 : Int32).toInt).toNat := rfl
                              have hx9 := xr8243_0 (by omega)
                              have hd9 : (wyD ((mm).toInt).toNat ((iv 12 57).toInt).toNat ((x8072_3 : Int32).toInt).toNat) ((x8235_5 : Int32).toInt).toNat = ((r8243 : Int32).toInt).toNat := by omega
                              have hfa : f8247 ((r8243 : Int32).toInt).toNat = w8235_a_12_59 ((r8243 : Int32).toInt).toNat + fa 12 58 ((x8235_5 : Int32).toInt).toNat := by
                                have y1 : f8247 ((r8243 : Int32).toInt).toNat = v8246 := by rw [ef8247, hR9]; exact upd_eq
                                rw [y1, ev8246, ev8244, ev8245]; rfl
                              have hfb : ∀ j : Nat, j ≠ ((r8243 : Int32).toInt).toNat → f8247 j = w8235_a_12_59 j := fun j hj => by rw [ef8247, hR9, upd_ne hj]
                              have hE9 := wyE_st hs9 hq8236_0 hd9 hfa hfb ((r8243 : Int32).toInt).toNat (by omega)
                              have hv9 := congrArg Int32.toInt (show v8248 = f8247 ((r8243 : Int32).toInt).toNat from ev8248)
                              rw [hE9, ← hd9] at hv9
                              exact wyL_st hs9 hq8236_1 hv9 (Or.inr ⟨by omega, by omega⟩))) (show (v8250 : Int32).toInt ≤ ((iv 12 57) : Int32).toInt from by omega) (by omega) _ _ ls hP hD hS (lv_sub hl [0, 1, 3, 4, 5, 6] rfl)
                      · have fc8249 := z_nle (rfl : (v8248).toInt = _) (rfl : (x8235_4).toInt = _) c8249
                        refine lv_aload_n hx hb dX12_findOrder_103 rfl (lv_at hl 5 rfl) ?_
                        refine gM_12_59 hx hb ht hown hK hP m_1198 dX12_findOrder_104 ?_
                        refine lv_iload hx hb dX12_findOrder_107 (lv_at hl 0 rfl) ?_
                        refine lM_12_59 hx hb hK hP (f := f8247) rfl (vp_in_iff.mpr ⟨by omega, by omega⟩) dX12_findOrder_109 ?_
                        refine lv_topi (fun v8251 ev8251 => ?_)
                        obtain rfl : v8248 = v8251 := ev8248.trans ev8251.symm
                        refine lv_goto (tgt := 115) hx hb dX12_findOrder_110 (by decide) ?_
                        refine lv_istore (lv' := [(4, .int v8248), (6, .int r8243), (5, .int x8235_5), (3, .int x8072_3), (2, .int r1), (0, .ref h), (1, .int mm)]) hx hb dX12_findOrder_115 hl (by decide) rfl (fun ls hl => ?_)
                        obtain ⟨v8252, ev8252⟩ : ∃ y : Int32, y = x8235_5 + 1 := ⟨_, rfl⟩
                        have tv8252 := z_add ev8252 rfl (by decide : (1 : Int32).toInt = 1) (by omega) (by omega)
                        refine lv_iinc (v := v8252) (lv' := [(5, .int v8252), (4, .int v8248), (6, .int r8243), (3, .int x8072_3), (2, .int r1), (0, .ref h), (1, .int mm)]) hx hb dX12_findOrder_117 hl (k := 2) rfl (by rw [ev8252]; rfl) (by decide) rfl (fun ls hl => ?_)
                        refine lv_goto (tgt := 55) hx hb dX12_findOrder_120 (by decide) ?_
                        exact ih8236 v8252 v8248 f8247 ⟨by omega, by omega⟩ (by omega) hf8247 (show ∀ o : Nat, o < 3 → f8247 o = wyE (wyD ((mm).toInt).toNat ((iv 12 57).toInt).toNat ((x8072_3 : Int32).toInt).toNat) (fa 12 58) o ((v8252 : Int32).toInt).toNat from (by
                              have hs9 : ((v8252 : Int32).toInt).toNat = ((x8235_5 : Int32).toInt).toNat + 1 := by omega
                              have hR9 : (r8243 : Int32).toNatClampNeg = ((r8243 : Int32).toInt).toNat := rfl
                              have hx9 := xr8243_0 (by omega)
                              have hd9 : (wyD ((mm).toInt).toNat ((iv 12 57).toInt).toNat ((x8072_3 : Int32).toInt).toNat) ((x8235_5 : Int32).toInt).toNat = ((r8243 : Int32).toInt).toNat := by omega
                              have hfa : f8247 ((r8243 : Int32).toInt).toNat = w8235_a_12_59 ((r8243 : Int32).toInt).toNat + fa 12 58 ((x8235_5 : Int32).toInt).toNat := by
                                have y1 : f8247 ((r8243 : Int32).toInt).toNat = v8246 := by rw [ef8247, hR9]; exact upd_eq
                                rw [y1, ev8246, ev8244, ev8245]; rfl
                              have hfb : ∀ j : Nat, j ≠ ((r8243 : Int32).toInt).toNat → f8247 j = w8235_a_12_59 j := fun j hj => by rw [ef8247, hR9, upd_ne hj]
                              exact wyE_st hs9 hq8236_0 hd9 hfa hfb)) (show (v8248 : Int32).toInt = wyL (wyD ((mm).toInt).toNat ((iv 12 57).toInt).toNat ((x8072_3 : Int32).toInt).toNat) (fa 12 58) ((v8252 : Int32).toInt).toNat from (by
                              have hs9 : ((v8252 : Int32).toInt).toNat = ((x8235_5 : Int32).toInt).toNat + 1 := by omega
                              have hR9 : (r8243 : Int32).toNatClampNeg = ((r8243 : Int32).toInt).toNat := rfl
                              have hx9 := xr8243_0 (by omega)
                              have hd9 : (wyD ((mm).toInt).toNat ((iv 12 57).toInt).toNat ((x8072_3 : Int32).toInt).toNat) ((x8235_5 : Int32).toInt).toNat = ((r8243 : Int32).toInt).toNat := by omega
                              have hfa : f8247 ((r8243 : Int32).toInt).toNat = w8235_a_12_59 ((r8243 : Int32).toInt).toNat + fa 12 58 ((x8235_5 : Int32).toInt).toNat := by
                                have y1 : f8247 ((r8243 : Int32).toInt).toNat = v8246 := by rw [ef8247, hR9]; exact upd_eq
                                rw [y1, ev8246, ev8244, ev8245]; rfl
                              have hfb : ∀ j : Nat, j ≠ ((r8243 : Int32).toInt).toNat → f8247 j = w8235_a_12_59 j := fun j hj => by rw [ef8247, hR9, upd_ne hj]
                              have hE9 := wyE_st hs9 hq8236_0 hd9 hfa hfb ((r8243 : Int32).toInt).toNat (by omega)
                              have hv9 := congrArg Int32.toInt (show v8248 = f8247 ((r8243 : Int32).toInt).toNat from ev8248)
                              rw [hE9, ← hd9] at hv9
                              exact wyL_st hs9 hq8236_1 hv9 (Or.inl ⟨by omega, by omega⟩))) (show (v8252 : Int32).toInt ≤ ((iv 12 57) : Int32).toInt from by omega) (by omega) _ _ ls hP hD hS (lv_sub hl [0, 1, 3, 4, 5, 6] rfl)
                have : (0 : Int32).toInt = 0 := (by decide)
                exact lp8236 9 0 0 f8080 ⟨by decide, by decide⟩ (by decide) hf8080 (show ∀ o : Nat, o < 3 → f8080 o = wyE (wyD ((mm).toInt).toNat ((iv 12 57).toInt).toNat ((x8072_3 : Int32).toInt).toNat) (fa 12 58) o ((0 : Int32).toInt).toNat from (fun o ho => by
                      have hz : ((0 : Int32).toInt).toNat = 0 := (by decide)
                      rw [hz]
                      rcases (by omega : o = 0 ∨ o = 1 ∨ o = 2) with rfl | rfl | rfl
                      · exact (by rw [ef8080, ef8078, ef8076]; rfl)
                      · exact (by rw [ef8080, ef8078, ef8076]; rfl)
                      · exact (by rw [ef8080, ef8078, ef8076]; rfl))) (show (0 : Int32).toInt = wyL (wyD ((mm).toInt).toNat ((iv 12 57).toInt).toNat ((x8072_3 : Int32).toInt).toNat) (fa 12 58) ((0 : Int32).toInt).toNat from (by have hz : ((0 : Int32).toInt).toNat = 0 := (by decide); rw [hz]; exact (by decide : (0 : Int32).toInt = 0))) (show (0 : Int32).toInt ≤ ((iv 12 57) : Int32).toInt from by omega) (by first | decide | omega) _ _ ls hP hD hS (lv_sub hl [0, 1, 2, 3, 4, 5] rfl)
              · exact absurd c8081 (by decide)
  have : (0 : Int32).toInt = 0 := (by decide)
  have : ((-1) : Int32).toInt = (-1) := (by decide)
  exact lp8073 10000 0 (-1) 0 (fa 12 59) ⟨by decide, by decide⟩ (hI.2 12 59) (show wyM ((iv 12 57).toInt).toNat (fa 12 58) → wyA (wyF ((mm).toInt).toNat ((iv 12 57).toInt).toNat (fa 12 58)) ((0 : Int32).toInt).toNat ((-1) : Int32).toInt (0 : Int32).toInt from (fun _ => Or.inl ⟨(by decide : ((0 : Int32).toInt).toNat = 0), by omega⟩)) (show (0 : Int32).toInt ≤ (r1 : Int32).toInt from by omega) (by first | decide | omega) _ _ ls hP hD hS (lv_sub hl [0, 1, 2, 3] rfl)
