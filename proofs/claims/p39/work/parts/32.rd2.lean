/-! ===== rd2 ===== -/
set_option maxHeartbeats 4000000 in
set_option maxRecDepth 100000 in
/-- X8_readOneOf -/
theorem c_X8_readOneOf_r0 (l : Launch) (dC : Nat → ClassId) (dI : Nat → Nat → Nat) (sz : Nat) (ak av : Nat → Nat) (h : Nat) (g : Nat → Nat → Nat) (ca : Nat → Nat → ClassId) (iv : Nat → Nat → Int32) (lv : Nat → Nat → Int64) (fa : Nat → Nat → Nat → Int32) (la : Nat → Nat → Nat → Int64) (hI : IX iv fa) : Met l yX8_readOneOf (wc yX8_readOneOf cX8_readOneOf 6 (some .int)) ({ frames := 5, cells := 0, slots := 0, locals := 110 } : Room) (pWZ ak av (dC, dI) classes (WX h g ca iv lv fa la) (TX ca) sz [.ref (g 11 4), .ref (ak 0)]) (va_Qi (fun r (u : SS) => ∃ (ni_8_3 : Int32) (ni_8_4 : Int32) (ni_8_5 : Int32), inb (bI 8 3) ni_8_3 ∧ inb (bI 8 4) ni_8_4 ∧ inb (bI 8 5) ni_8_5 ∧ (∃ s e : Int, Sk (fun j => ((fa 8 1) j).toInt) (iv 8 2).toInt (iv 8 5).toInt s ∧ Rn (fun j => ((fa 8 1) j).toInt) (iv 8 2).toInt 97 122 s e ∧ ((r.toInt = -1 ∧ kwK (fun j => ((fa 8 1) j).toInt) s e = -1 ∧ (ni_8_4).toInt = 1 ∧ (ni_8_3).toInt = s) ∨ (0 ≤ r.toInt ∧ r.toInt = kwK (fun j => ((fa 8 1) j).toInt) s e ∧ (ni_8_4).toInt = (iv 8 4).toInt ∧ (ni_8_3).toInt = (iv 8 3).toInt ∧ (ni_8_5).toInt = e))) ∧ ((-1) ≤ r.toInt ∧ r.toInt ≤ 3) ∧ u = ((u2 (u2 (u2 iv 8 3 ni_8_3) 8 4 ni_8_4) 8 5 ni_8_5), lv, fa, la)) (bX (dC, dI) h g ca (va_A (WX h g ca iv lv fa la) sz)) (va_A (WX h g ca iv lv fa la) sz)) 0 0 (va_A (WX h g ca iv lv fa la) sz) := by
  refine Met.ofW (cc := cX8_readOneOf) (maxL := 6) (ret := (some .int)) (by decide) rfl ?_
  intro p e s m args below meth c s₁ B hml hv
  obtain ⟨rfl, hsz, hP, hK, hD0, hZ⟩ := hv
  have hx := B.exec
  have hb := B.bytes
  have hr := B.returns
  have ht := tb_tl (atoms_spec (ws := wc yX8_readOneOf cX8_readOneOf 6 (some .int)) B.pre)
  have hown : s.vm.findClass RX8 = some m.cls := findClass_of_methodNamed B.named
  have hlocks := B.notSynchronized
  subst hsz
  have hD := hD0.self (sz := s.heap.size)
  generalize hAe : va_A (WX h g ca iv lv fa la) s.heap.size = A at hD hZ ⊢
  have hA : ∀ q : Nat, s.heap.size ≤ q → A q := fun q h => by rw [← hAe]; exact Or.inr h
  have hS : va_S A s.heap s.heap [] := va_S.rf
  have hl := lv_entry [.ref (g 11 4), .ref (ak 0)] (n := 6) (Nat.le_of_ble_eq_true rfl)
  rw [lg_entry_eq]
  generalize (lg_sl [.ref (g 11 4), .ref (ak 0)] ++ List.replicate (6 - (lg_sl [.ref (g 11 4), .ref (ak 0)]).length) Slot.unset).toArray = ls at hl ⊢
  have hl : lv_has ls 6 [(0, .ref (g 11 4)), (1, .ref (ak 0))] := hl
  refine lv_aload_n hx hb dX8_readOneOf_0 rfl (lv_at hl 0 rfl) ?_
  have i_8_5 : 0 ≤ (iv 8 5).toInt ∧ (iv 8 5).toInt ≤ 200 := hI.1 8 5
  have hFc := free_all hD hS hA
  refine va_calli (va_runV (As := []) (rest := []) ⟨hx, hb, hml, hown, ht⟩ (c_X8_skipBlanks_r l dC dI s.heap.size h g ca iv lv fa la hI) (kV 0 ht m_688 m_690 m_16 m_82 m_691 rfl rfl hd_X8_skipBlanks_v ⟨Nat.le_of_ble_eq_true rfl, Nat.le_of_ble_eq_true rfl⟩) (vW hP hK hD (rX_8 hK hP)) rfl rfl hl.1 rfl (lv_room (Nat.le_of_ble_eq_true rfl)) dX8_readOneOf_1 ⟨Nat.le_of_ble_eq_true rfl, Nat.le_of_ble_eq_true rfl⟩) hS (fun q _ h => hFc q h) hFc (fun r1 u t H1 locs ht9 hvm hr1 hB hz1 hk1 hS => ?_)
  obtain ⟨n2, hn2, xr1_0, xr1_1, hr1, rfl⟩ := hr1
  have hn2 : 0 ≤ n2.toInt ∧ n2.toInt ≤ 200 := hn2
  obtain ⟨hP, hD⟩ := hB
  rw [ht9] at hP
  generalize H1 = H at hP hS ⊢
  have hP : va_P (dC, dI) classes (WX h g ca (u2 iv 8 5 n2) lv fa la) H := hP
  have hD : va_D A (WX h g ca (u2 iv 8 5 n2) lv fa la) := (show va_D _ (WX h g ca (u2 iv 8 5 n2) lv fa la) from hD).weaken (fun _ _ _ h => hFc _ h)
  have i_8_2 : 0 ≤ (iv 8 2).toInt ∧ (iv 8 2).toInt ≤ 200 := hI.1 8 2
  have xr1_0 : Sk (fun j => ((fa 8 1) j).toInt) ((iv 8 2) : Int32).toInt ((iv 8 5) : Int32).toInt (n2 : Int32).toInt := xr1_0
  have xr1_1 : (((r1 : Int32).toInt = 1 ∧ (n2 : Int32).toInt < ((iv 8 2) : Int32).toInt) ∨ ((r1 : Int32).toInt = 0 ∧ ((iv 8 2) : Int32).toInt ≤ (n2 : Int32).toInt)) := xr1_1
  refine lv_pop hx hb dX8_readOneOf_4 rfl ?_
  refine lv_aload_n hx hb dX8_readOneOf_5 rfl (lv_at hl 0 rfl) ?_
  refine lv_bipush (v := 97) hx hb dX8_readOneOf_6 (by decide) ?_
  refine lv_bipush (v := 122) hx hb dX8_readOneOf_8 (by decide) ?_
  refine vp_callSi (W.runV (As := [.int 97, .int 122]) (rest := []) ⟨hx, hb, hml, hown, ht⟩ (c_X8_endOfRun_r97 l dC dI h g ca (u2 iv 8 5 n2) lv fa la (IX_i (c := 8) (k := 5) hI (show inb (0, 200) n2 from ⟨by omega, by omega⟩))) (kV 2 ht m_701 m_703 m_19 m_82 m_704 rfl rfl hd_X8_endOfRun_v ⟨Nat.le_of_ble_eq_true rfl, Nat.le_of_ble_eq_true rfl⟩) (vR hP hK (rX_8 hK hP)) rfl rfl hl.1 rfl (lv_room (Nat.le_of_ble_eq_true rfl)) dX8_readOneOf_10 ⟨Nat.le_of_ble_eq_true rfl, Nat.le_of_ble_eq_true rfl⟩) (fun r3 hr3 => ?_)
  obtain ⟨hr3, xr3_0, xr3_1⟩ := hr3
  have xr3_0 : Rn (fun j => ((fa 8 1) j).toInt) ((iv 8 2) : Int32).toInt 97 122 (n2 : Int32).toInt (r3 : Int32).toInt := xr3_0
  have xr3_1 : (n2 : Int32).toInt ≤ (r3 : Int32).toInt := xr3_1
  refine lv_istore_n (lv' := [(2, .int r3), (0, .ref (g 11 4)), (1, .ref (ak 0))]) hx hb dX8_readOneOf_13 rfl hl (by decide) rfl (fun ls hl => ?_)
  refine lv_iconst (v := 0) hx hb dX8_readOneOf_14 (by decide) ?_
  refine lv_istore_n (lv' := [(3, .int 0), (2, .int r3), (0, .ref (g 11 4)), (1, .ref (ak 0))]) hx hb dX8_readOneOf_15 rfl hl (by decide) rfl (fun ls hl => ?_)
  refine lv_iconst (v := 0) hx hb dX8_readOneOf_16 (by decide) ?_
  refine lv_istore (lv' := [(4, .int 0), (3, .int 0), (2, .int r3), (0, .ref (g 11 4)), (1, .ref (ak 0))]) hx hb dX8_readOneOf_17 hl (by decide) rfl (fun ls hl => ?_)
  refine lv_iconst (v := 0) hx hb dX8_readOneOf_19 (by decide) ?_
  refine lv_istore (lv' := [(5, .int 0), (4, .int 0), (3, .int 0), (2, .int r3), (0, .ref (g 11 4)), (1, .ref (ak 0))]) hx hb dX8_readOneOf_20 hl (by decide) rfl (fun ls hl => ?_)
  refine lv_iload hx hb dX8_readOneOf_22 (lv_at hl 0 rfl) ?_
  refine lv_aload_n hx hb dX8_readOneOf_24 rfl (lv_at hl 5 rfl) ?_
  refine vp_callSi (W.runV (As := []) (rest := [.int 0]) ⟨hx, hb, hml, hown, ht⟩ (c_J0_length_8abf5_0 l dC dI ak av) (kV 0 ht m_705 m_706 m_707 m_91 m_708 rfl rfl hd_J0_length_8abf5_v ⟨Nat.le_of_ble_eq_true rfl, Nat.le_of_ble_eq_true rfl⟩) (vRZ noP (hK.sub (tys' := []) [] rfl) ((hZ.kept hS.2.1).narrow (fun _ h => h.elim)) (vk_recv hZ.1.2.2.2.2.2 (i := 0) (by decide) hS)) rfl rfl hl.1 rfl (lv_room (Nat.le_of_ble_eq_true rfl)) dX8_readOneOf_25 ⟨Nat.le_of_ble_eq_true rfl, Nat.le_of_ble_eq_true rfl⟩) (fun r4 hr4 => ?_)
  obtain rfl : 21 = r4 := hr4.symm
  refine lv_icmp_ge (tgt := 77) hx hb dX8_readOneOf_28 (by decide) (fun c5 => ?_) (fun c5 => ?_)
  · exact absurd c5 (by decide)
  · skip
    refine lv_aload_n hx hb dX8_readOneOf_31 rfl (lv_at hl 5 rfl) ?_
    refine lv_iload hx hb dX8_readOneOf_32 (lv_at hl 0 rfl) ?_
    refine vp_callSi (W.runV (As := [.int 0]) (rest := []) ⟨hx, hb, hml, hown, ht⟩ (c_J0_charAt_5068e_0 l dC dI ak av 0 ⟨by decide, by decide⟩) (kV 1 ht m_715 m_716 m_717 m_91 m_718 rfl rfl hd_J0_charAt_5068e_v ⟨Nat.le_of_ble_eq_true rfl, Nat.le_of_ble_eq_true rfl⟩) (vRZ noP (hK.sub (tys' := []) [] rfl) ((hZ.kept hS.2.1).narrow (fun _ h => h.elim)) (vk_recv hZ.1.2.2.2.2.2 (i := 0) (by decide) hS)) rfl rfl hl.1 rfl (lv_room (Nat.le_of_ble_eq_true rfl)) dX8_readOneOf_34 ⟨Nat.le_of_ble_eq_true rfl, Nat.le_of_ble_eq_true rfl⟩) (fun r6 hr6 => ?_)
    obtain rfl : 108 = r6 := (hr6.trans (by decide)).symm
    refine lv_bipush (v := 32) hx hb dX8_readOneOf_37 (by decide) ?_
    refine lv_icmp_ne (tgt := 71) hx hb dX8_readOneOf_39 (by decide) (fun c7 => ?_) (fun c7 => ?_)
    · skip
      refine lv_iinc (v := 1) (lv' := [(5, .int 1), (4, .int 0), (3, .int 0), (2, .int r3), (0, .ref (g 11 4)), (1, .ref (ak 0))]) hx hb dX8_readOneOf_71 hl (k := 0) rfl (by decide) (by decide) rfl (fun ls hl => ?_)
      refine lv_goto (tgt := 22) hx hb dX8_readOneOf_74 (by decide) ?_
      refine lv_iload hx hb dX8_readOneOf_22 (lv_at hl 0 rfl) ?_
      refine lv_aload_n hx hb dX8_readOneOf_24 rfl (lv_at hl 5 rfl) ?_
      refine vp_callSi (W.runV (As := []) (rest := [.int 1]) ⟨hx, hb, hml, hown, ht⟩ (c_J0_length_8abf5_0 l dC dI ak av) (kV 0 ht m_705 m_706 m_707 m_91 m_708 rfl rfl hd_J0_length_8abf5_v ⟨Nat.le_of_ble_eq_true rfl, Nat.le_of_ble_eq_true rfl⟩) (vRZ noP (hK.sub (tys' := []) [] rfl) ((hZ.kept hS.2.1).narrow (fun _ h => h.elim)) (vk_recv hZ.1.2.2.2.2.2 (i := 0) (by decide) hS)) rfl rfl hl.1 rfl (lv_room (Nat.le_of_ble_eq_true rfl)) dX8_readOneOf_25 ⟨Nat.le_of_ble_eq_true rfl, Nat.le_of_ble_eq_true rfl⟩) (fun r8 hr8 => ?_)
      obtain rfl : 21 = r8 := hr8.symm
      refine lv_icmp_ge (tgt := 77) hx hb dX8_readOneOf_28 (by decide) (fun c9 => ?_) (fun c9 => ?_)
      · exact absurd c9 (by decide)
      · skip
        refine lv_aload_n hx hb dX8_readOneOf_31 rfl (lv_at hl 5 rfl) ?_
        refine lv_iload hx hb dX8_readOneOf_32 (lv_at hl 0 rfl) ?_
        refine vp_callSi (W.runV (As := [.int 1]) (rest := []) ⟨hx, hb, hml, hown, ht⟩ (c_J0_charAt_5068e_0 l dC dI ak av 1 ⟨by decide, by decide⟩) (kV 1 ht m_715 m_716 m_717 m_91 m_718 rfl rfl hd_J0_charAt_5068e_v ⟨Nat.le_of_ble_eq_true rfl, Nat.le_of_ble_eq_true rfl⟩) (vRZ noP (hK.sub (tys' := []) [] rfl) ((hZ.kept hS.2.1).narrow (fun _ h => h.elim)) (vk_recv hZ.1.2.2.2.2.2 (i := 0) (by decide) hS)) rfl rfl hl.1 rfl (lv_room (Nat.le_of_ble_eq_true rfl)) dX8_readOneOf_34 ⟨Nat.le_of_ble_eq_true rfl, Nat.le_of_ble_eq_true rfl⟩) (fun r10 hr10 => ?_)
        obtain rfl : 101 = r10 := (hr10.trans (by decide)).symm
        refine lv_bipush (v := 32) hx hb dX8_readOneOf_37 (by decide) ?_
        refine lv_icmp_ne (tgt := 71) hx hb dX8_readOneOf_39 (by decide) (fun c11 => ?_) (fun c11 => ?_)
        · skip
          refine lv_iinc (v := 2) (lv' := [(5, .int 2), (4, .int 0), (3, .int 0), (2, .int r3), (0, .ref (g 11 4)), (1, .ref (ak 0))]) hx hb dX8_readOneOf_71 hl (k := 0) rfl (by decide) (by decide) rfl (fun ls hl => ?_)
          refine lv_goto (tgt := 22) hx hb dX8_readOneOf_74 (by decide) ?_
          refine lv_iload hx hb dX8_readOneOf_22 (lv_at hl 0 rfl) ?_
          refine lv_aload_n hx hb dX8_readOneOf_24 rfl (lv_at hl 5 rfl) ?_
          refine vp_callSi (W.runV (As := []) (rest := [.int 2]) ⟨hx, hb, hml, hown, ht⟩ (c_J0_length_8abf5_0 l dC dI ak av) (kV 0 ht m_705 m_706 m_707 m_91 m_708 rfl rfl hd_J0_length_8abf5_v ⟨Nat.le_of_ble_eq_true rfl, Nat.le_of_ble_eq_true rfl⟩) (vRZ noP (hK.sub (tys' := []) [] rfl) ((hZ.kept hS.2.1).narrow (fun _ h => h.elim)) (vk_recv hZ.1.2.2.2.2.2 (i := 0) (by decide) hS)) rfl rfl hl.1 rfl (lv_room (Nat.le_of_ble_eq_true rfl)) dX8_readOneOf_25 ⟨Nat.le_of_ble_eq_true rfl, Nat.le_of_ble_eq_true rfl⟩) (fun r12 hr12 => ?_)
          obtain rfl : 21 = r12 := hr12.symm
          refine lv_icmp_ge (tgt := 77) hx hb dX8_readOneOf_28 (by decide) (fun c13 => ?_) (fun c13 => ?_)
          · exact absurd c13 (by decide)
          · skip
            refine lv_aload_n hx hb dX8_readOneOf_31 rfl (lv_at hl 5 rfl) ?_
            refine lv_iload hx hb dX8_readOneOf_32 (lv_at hl 0 rfl) ?_
            refine vp_callSi (W.runV (As := [.int 2]) (rest := []) ⟨hx, hb, hml, hown, ht⟩ (c_J0_charAt_5068e_0 l dC dI ak av 2 ⟨by decide, by decide⟩) (kV 1 ht m_715 m_716 m_717 m_91 m_718 rfl rfl hd_J0_charAt_5068e_v ⟨Nat.le_of_ble_eq_true rfl, Nat.le_of_ble_eq_true rfl⟩) (vRZ noP (hK.sub (tys' := []) [] rfl) ((hZ.kept hS.2.1).narrow (fun _ h => h.elim)) (vk_recv hZ.1.2.2.2.2.2 (i := 0) (by decide) hS)) rfl rfl hl.1 rfl (lv_room (Nat.le_of_ble_eq_true rfl)) dX8_readOneOf_34 ⟨Nat.le_of_ble_eq_true rfl, Nat.le_of_ble_eq_true rfl⟩) (fun r14 hr14 => ?_)
            obtain rfl : 116 = r14 := (hr14.trans (by decide)).symm
            refine lv_bipush (v := 32) hx hb dX8_readOneOf_37 (by decide) ?_
            refine lv_icmp_ne (tgt := 71) hx hb dX8_readOneOf_39 (by decide) (fun c15 => ?_) (fun c15 => ?_)
            · skip
              refine lv_iinc (v := 3) (lv' := [(5, .int 3), (4, .int 0), (3, .int 0), (2, .int r3), (0, .ref (g 11 4)), (1, .ref (ak 0))]) hx hb dX8_readOneOf_71 hl (k := 0) rfl (by decide) (by decide) rfl (fun ls hl => ?_)
              refine lv_goto (tgt := 22) hx hb dX8_readOneOf_74 (by decide) ?_
              refine lv_iload hx hb dX8_readOneOf_22 (lv_at hl 0 rfl) ?_
              refine lv_aload_n hx hb dX8_readOneOf_24 rfl (lv_at hl 5 rfl) ?_
              refine vp_callSi (W.runV (As := []) (rest := [.int 3]) ⟨hx, hb, hml, hown, ht⟩ (c_J0_length_8abf5_0 l dC dI ak av) (kV 0 ht m_705 m_706 m_707 m_91 m_708 rfl rfl hd_J0_length_8abf5_v ⟨Nat.le_of_ble_eq_true rfl, Nat.le_of_ble_eq_true rfl⟩) (vRZ noP (hK.sub (tys' := []) [] rfl) ((hZ.kept hS.2.1).narrow (fun _ h => h.elim)) (vk_recv hZ.1.2.2.2.2.2 (i := 0) (by decide) hS)) rfl rfl hl.1 rfl (lv_room (Nat.le_of_ble_eq_true rfl)) dX8_readOneOf_25 ⟨Nat.le_of_ble_eq_true rfl, Nat.le_of_ble_eq_true rfl⟩) (fun r16 hr16 => ?_)
              obtain rfl : 21 = r16 := hr16.symm
              refine lv_icmp_ge (tgt := 77) hx hb dX8_readOneOf_28 (by decide) (fun c17 => ?_) (fun c17 => ?_)
              · exact absurd c17 (by decide)
              · skip
                refine lv_aload_n hx hb dX8_readOneOf_31 rfl (lv_at hl 5 rfl) ?_
                refine lv_iload hx hb dX8_readOneOf_32 (lv_at hl 0 rfl) ?_
                refine vp_callSi (W.runV (As := [.int 3]) (rest := []) ⟨hx, hb, hml, hown, ht⟩ (c_J0_charAt_5068e_0 l dC dI ak av 3 ⟨by decide, by decide⟩) (kV 1 ht m_715 m_716 m_717 m_91 m_718 rfl rfl hd_J0_charAt_5068e_v ⟨Nat.le_of_ble_eq_true rfl, Nat.le_of_ble_eq_true rfl⟩) (vRZ noP (hK.sub (tys' := []) [] rfl) ((hZ.kept hS.2.1).narrow (fun _ h => h.elim)) (vk_recv hZ.1.2.2.2.2.2 (i := 0) (by decide) hS)) rfl rfl hl.1 rfl (lv_room (Nat.le_of_ble_eq_true rfl)) dX8_readOneOf_34 ⟨Nat.le_of_ble_eq_true rfl, Nat.le_of_ble_eq_true rfl⟩) (fun r18 hr18 => ?_)
                obtain rfl : 32 = r18 := (hr18.trans (by decide)).symm
                refine lv_bipush (v := 32) hx hb dX8_readOneOf_37 (by decide) ?_
                refine lv_icmp_ne (tgt := 71) hx hb dX8_readOneOf_39 (by decide) (fun c19 => ?_) (fun c19 => ?_)
                · exact absurd rfl c19
                · skip
                  refine lv_aload_n hx hb dX8_readOneOf_42 rfl (lv_at hl 4 rfl) ?_
                  refine lv_aload_n hx hb dX8_readOneOf_43 rfl (lv_at hl 5 rfl) ?_
                  refine lv_iload hx hb dX8_readOneOf_44 (lv_at hl 1 rfl) ?_
                  refine lv_iload hx hb dX8_readOneOf_46 (lv_at hl 0 rfl) ?_
                  refine lv_iload_n hx hb dX8_readOneOf_48 rfl (lv_at hl 3 rfl) ?_
                  refine vp_callSi (W.runV (As := [.ref (ak 0), .int 0, .int 3, .int r3]) (rest := []) ⟨hx, hb, hml, hown, ht⟩ (c_X8_isSame_g0 l dC dI ak av h g ca (u2 iv 8 5 n2) lv fa la (IX_i (c := 8) (k := 5) hI (show inb (0, 200) n2 from ⟨by omega, by omega⟩)) 0 3 r3 ⟨by decide, by decide⟩ ⟨by decide, by decide⟩ ⟨by omega, by omega⟩) (kV 4 ht m_753 m_755 m_20 m_82 m_756 rfl rfl hd_X8_isSame_v ⟨Nat.le_of_ble_eq_true rfl, Nat.le_of_ble_eq_true rfl⟩) (vRZ hP hK ((hZ.kept hS.2.1).narrow (fun _ h => h.elim)) (rX_8 hK hP)) rfl rfl hl.1 rfl (lv_room (Nat.le_of_ble_eq_true rfl)) dX8_readOneOf_49 ⟨Nat.le_of_ble_eq_true rfl, Nat.le_of_ble_eq_true rfl⟩) (fun r20 hr20 => ?_)
                  obtain ⟨hr20, xr20_0⟩ := hr20
                  have : (3 : Int32).toInt = 3 := (by decide)
                  have : (0 : Int32).toInt = 0 := (by decide)
                  have xr20_0 : (((r20 : Int32).toInt = 1 ∧ WdG (fun j => ((fa 8 1) j).toInt) (n2 : Int32).toInt (r3 : Int32).toInt ((3 : Int32).toInt - (0 : Int32).toInt) (LsW 0 (0 : Int32).toInt)) ∨ ((r20 : Int32).toInt = 0 ∧ ¬ WdG (fun j => ((fa 8 1) j).toInt) (n2 : Int32).toInt (r3 : Int32).toInt ((3 : Int32).toInt - (0 : Int32).toInt) (LsW 0 (0 : Int32).toInt))) := xr20_0
                  refine lv_if_eq (tgt := 62) hx hb dX8_readOneOf_52 (by decide) (fun c21 => ?_) (fun c21 => ?_)
                  · have fc21 := z_eq (rfl : (r20).toInt = _) (by decide : (0 : Int32).toInt = 0) c21
                    refine lv_iinc (v := 1) (lv' := [(3, .int 1), (5, .int 3), (4, .int 0), (2, .int r3), (0, .ref (g 11 4)), (1, .ref (ak 0))]) hx hb dX8_readOneOf_62 hl (k := 2) rfl (by decide) (by decide) rfl (fun ls hl => ?_)
                    refine lv_iload hx hb dX8_readOneOf_65 (lv_at hl 1 rfl) ?_
                    refine lv_iconst (v := 1) hx hb dX8_readOneOf_67 (by decide) ?_
                    refine lv_iadd hx hb dX8_readOneOf_68 ?_
                    refine lv_topi (fun v22 ev22 => ?_)
                    obtain rfl : 4 = v22 := (ev22.trans (by decide)).symm
                    refine lv_istore (lv' := [(4, .int 4), (3, .int 1), (5, .int 3), (2, .int r3), (0, .ref (g 11 4)), (1, .ref (ak 0))]) hx hb dX8_readOneOf_69 hl (by decide) rfl (fun ls hl => ?_)
                    refine lv_iinc (v := 4) (lv' := [(5, .int 4), (4, .int 4), (3, .int 1), (2, .int r3), (0, .ref (g 11 4)), (1, .ref (ak 0))]) hx hb dX8_readOneOf_71 hl (k := 2) rfl (by decide) (by decide) rfl (fun ls hl => ?_)
                    refine lv_goto (tgt := 22) hx hb dX8_readOneOf_74 (by decide) ?_
                    refine lv_iload hx hb dX8_readOneOf_22 (lv_at hl 0 rfl) ?_
                    refine lv_aload_n hx hb dX8_readOneOf_24 rfl (lv_at hl 5 rfl) ?_
                    refine vp_callSi (W.runV (As := []) (rest := [.int 4]) ⟨hx, hb, hml, hown, ht⟩ (c_J0_length_8abf5_0 l dC dI ak av) (kV 0 ht m_705 m_706 m_707 m_91 m_708 rfl rfl hd_J0_length_8abf5_v ⟨Nat.le_of_ble_eq_true rfl, Nat.le_of_ble_eq_true rfl⟩) (vRZ noP (hK.sub (tys' := []) [] rfl) ((hZ.kept hS.2.1).narrow (fun _ h => h.elim)) (vk_recv hZ.1.2.2.2.2.2 (i := 0) (by decide) hS)) rfl rfl hl.1 rfl (lv_room (Nat.le_of_ble_eq_true rfl)) dX8_readOneOf_25 ⟨Nat.le_of_ble_eq_true rfl, Nat.le_of_ble_eq_true rfl⟩) (fun r23 hr23 => ?_)
                    obtain rfl : 21 = r23 := hr23.symm
                    refine lv_icmp_ge (tgt := 77) hx hb dX8_readOneOf_28 (by decide) (fun c24 => ?_) (fun c24 => ?_)
                    · exact absurd c24 (by decide)
                    · skip
                      refine lv_aload_n hx hb dX8_readOneOf_31 rfl (lv_at hl 5 rfl) ?_
                      refine lv_iload hx hb dX8_readOneOf_32 (lv_at hl 0 rfl) ?_
                      refine vp_callSi (W.runV (As := [.int 4]) (rest := []) ⟨hx, hb, hml, hown, ht⟩ (c_J0_charAt_5068e_0 l dC dI ak av 4 ⟨by decide, by decide⟩) (kV 1 ht m_715 m_716 m_717 m_91 m_718 rfl rfl hd_J0_charAt_5068e_v ⟨Nat.le_of_ble_eq_true rfl, Nat.le_of_ble_eq_true rfl⟩) (vRZ noP (hK.sub (tys' := []) [] rfl) ((hZ.kept hS.2.1).narrow (fun _ h => h.elim)) (vk_recv hZ.1.2.2.2.2.2 (i := 0) (by decide) hS)) rfl rfl hl.1 rfl (lv_room (Nat.le_of_ble_eq_true rfl)) dX8_readOneOf_34 ⟨Nat.le_of_ble_eq_true rfl, Nat.le_of_ble_eq_true rfl⟩) (fun r25 hr25 => ?_)
                      obtain rfl : 116 = r25 := (hr25.trans (by decide)).symm
                      refine lv_bipush (v := 32) hx hb dX8_readOneOf_37 (by decide) ?_
                      refine lv_icmp_ne (tgt := 71) hx hb dX8_readOneOf_39 (by decide) (fun c26 => ?_) (fun c26 => ?_)
                      · skip
                        refine lv_iinc (v := 5) (lv' := [(5, .int 5), (4, .int 4), (3, .int 1), (2, .int r3), (0, .ref (g 11 4)), (1, .ref (ak 0))]) hx hb dX8_readOneOf_71 hl (k := 0) rfl (by decide) (by decide) rfl (fun ls hl => ?_)
                        refine lv_goto (tgt := 22) hx hb dX8_readOneOf_74 (by decide) ?_
                        refine lv_iload hx hb dX8_readOneOf_22 (lv_at hl 0 rfl) ?_
                        refine lv_aload_n hx hb dX8_readOneOf_24 rfl (lv_at hl 5 rfl) ?_
                        refine vp_callSi (W.runV (As := []) (rest := [.int 5]) ⟨hx, hb, hml, hown, ht⟩ (c_J0_length_8abf5_0 l dC dI ak av) (kV 0 ht m_705 m_706 m_707 m_91 m_708 rfl rfl hd_J0_length_8abf5_v ⟨Nat.le_of_ble_eq_true rfl, Nat.le_of_ble_eq_true rfl⟩) (vRZ noP (hK.sub (tys' := []) [] rfl) ((hZ.kept hS.2.1).narrow (fun _ h => h.elim)) (vk_recv hZ.1.2.2.2.2.2 (i := 0) (by decide) hS)) rfl rfl hl.1 rfl (lv_room (Nat.le_of_ble_eq_true rfl)) dX8_readOneOf_25 ⟨Nat.le_of_ble_eq_true rfl, Nat.le_of_ble_eq_true rfl⟩) (fun r27 hr27 => ?_)
                        obtain rfl : 21 = r27 := hr27.symm
                        refine lv_icmp_ge (tgt := 77) hx hb dX8_readOneOf_28 (by decide) (fun c28 => ?_) (fun c28 => ?_)
                        · exact absurd c28 (by decide)
                        · skip
                          refine lv_aload_n hx hb dX8_readOneOf_31 rfl (lv_at hl 5 rfl) ?_
                          refine lv_iload hx hb dX8_readOneOf_32 (lv_at hl 0 rfl) ?_
                          refine vp_callSi (W.runV (As := [.int 5]) (rest := []) ⟨hx, hb, hml, hown, ht⟩ (c_J0_charAt_5068e_0 l dC dI ak av 5 ⟨by decide, by decide⟩) (kV 1 ht m_715 m_716 m_717 m_91 m_718 rfl rfl hd_J0_charAt_5068e_v ⟨Nat.le_of_ble_eq_true rfl, Nat.le_of_ble_eq_true rfl⟩) (vRZ noP (hK.sub (tys' := []) [] rfl) ((hZ.kept hS.2.1).narrow (fun _ h => h.elim)) (vk_recv hZ.1.2.2.2.2.2 (i := 0) (by decide) hS)) rfl rfl hl.1 rfl (lv_room (Nat.le_of_ble_eq_true rfl)) dX8_readOneOf_34 ⟨Nat.le_of_ble_eq_true rfl, Nat.le_of_ble_eq_true rfl⟩) (fun r29 hr29 => ?_)
                          obtain rfl : 97 = r29 := (hr29.trans (by decide)).symm
                          refine lv_bipush (v := 32) hx hb dX8_readOneOf_37 (by decide) ?_
                          refine lv_icmp_ne (tgt := 71) hx hb dX8_readOneOf_39 (by decide) (fun c30 => ?_) (fun c30 => ?_)
                          · skip
                            refine lv_iinc (v := 6) (lv' := [(5, .int 6), (4, .int 4), (3, .int 1), (2, .int r3), (0, .ref (g 11 4)), (1, .ref (ak 0))]) hx hb dX8_readOneOf_71 hl (k := 0) rfl (by decide) (by decide) rfl (fun ls hl => ?_)
                            refine lv_goto (tgt := 22) hx hb dX8_readOneOf_74 (by decide) ?_
                            refine lv_iload hx hb dX8_readOneOf_22 (lv_at hl 0 rfl) ?_
                            refine lv_aload_n hx hb dX8_readOneOf_24 rfl (lv_at hl 5 rfl) ?_
                            refine vp_callSi (W.runV (As := []) (rest := [.int 6]) ⟨hx, hb, hml, hown, ht⟩ (c_J0_length_8abf5_0 l dC dI ak av) (kV 0 ht m_705 m_706 m_707 m_91 m_708 rfl rfl hd_J0_length_8abf5_v ⟨Nat.le_of_ble_eq_true rfl, Nat.le_of_ble_eq_true rfl⟩) (vRZ noP (hK.sub (tys' := []) [] rfl) ((hZ.kept hS.2.1).narrow (fun _ h => h.elim)) (vk_recv hZ.1.2.2.2.2.2 (i := 0) (by decide) hS)) rfl rfl hl.1 rfl (lv_room (Nat.le_of_ble_eq_true rfl)) dX8_readOneOf_25 ⟨Nat.le_of_ble_eq_true rfl, Nat.le_of_ble_eq_true rfl⟩) (fun r31 hr31 => ?_)
                            obtain rfl : 21 = r31 := hr31.symm
                            refine lv_icmp_ge (tgt := 77) hx hb dX8_readOneOf_28 (by decide) (fun c32 => ?_) (fun c32 => ?_)
                            · exact absurd c32 (by decide)
                            · skip
                              refine lv_aload_n hx hb dX8_readOneOf_31 rfl (lv_at hl 5 rfl) ?_
                              refine lv_iload hx hb dX8_readOneOf_32 (lv_at hl 0 rfl) ?_
                              refine vp_callSi (W.runV (As := [.int 6]) (rest := []) ⟨hx, hb, hml, hown, ht⟩ (c_J0_charAt_5068e_0 l dC dI ak av 6 ⟨by decide, by decide⟩) (kV 1 ht m_715 m_716 m_717 m_91 m_718 rfl rfl hd_J0_charAt_5068e_v ⟨Nat.le_of_ble_eq_true rfl, Nat.le_of_ble_eq_true rfl⟩) (vRZ noP (hK.sub (tys' := []) [] rfl) ((hZ.kept hS.2.1).narrow (fun _ h => h.elim)) (vk_recv hZ.1.2.2.2.2.2 (i := 0) (by decide) hS)) rfl rfl hl.1 rfl (lv_room (Nat.le_of_ble_eq_true rfl)) dX8_readOneOf_34 ⟨Nat.le_of_ble_eq_true rfl, Nat.le_of_ble_eq_true rfl⟩) (fun r33 hr33 => ?_)
                              obtain rfl : 107 = r33 := (hr33.trans (by decide)).symm
                              refine lv_bipush (v := 32) hx hb dX8_readOneOf_37 (by decide) ?_
                              refine lv_icmp_ne (tgt := 71) hx hb dX8_readOneOf_39 (by decide) (fun c34 => ?_) (fun c34 => ?_)
                              · skip
                                refine lv_iinc (v := 7) (lv' := [(5, .int 7), (4, .int 4), (3, .int 1), (2, .int r3), (0, .ref (g 11 4)), (1, .ref (ak 0))]) hx hb dX8_readOneOf_71 hl (k := 0) rfl (by decide) (by decide) rfl (fun ls hl => ?_)
                                refine lv_goto (tgt := 22) hx hb dX8_readOneOf_74 (by decide) ?_
                                refine lv_iload hx hb dX8_readOneOf_22 (lv_at hl 0 rfl) ?_
                                refine lv_aload_n hx hb dX8_readOneOf_24 rfl (lv_at hl 5 rfl) ?_
                                refine vp_callSi (W.runV (As := []) (rest := [.int 7]) ⟨hx, hb, hml, hown, ht⟩ (c_J0_length_8abf5_0 l dC dI ak av) (kV 0 ht m_705 m_706 m_707 m_91 m_708 rfl rfl hd_J0_length_8abf5_v ⟨Nat.le_of_ble_eq_true rfl, Nat.le_of_ble_eq_true rfl⟩) (vRZ noP (hK.sub (tys' := []) [] rfl) ((hZ.kept hS.2.1).narrow (fun _ h => h.elim)) (vk_recv hZ.1.2.2.2.2.2 (i := 0) (by decide) hS)) rfl rfl hl.1 rfl (lv_room (Nat.le_of_ble_eq_true rfl)) dX8_readOneOf_25 ⟨Nat.le_of_ble_eq_true rfl, Nat.le_of_ble_eq_true rfl⟩) (fun r35 hr35 => ?_)
                                obtain rfl : 21 = r35 := hr35.symm
                                refine lv_icmp_ge (tgt := 77) hx hb dX8_readOneOf_28 (by decide) (fun c36 => ?_) (fun c36 => ?_)
                                · exact absurd c36 (by decide)
                                · skip
                                  refine lv_aload_n hx hb dX8_readOneOf_31 rfl (lv_at hl 5 rfl) ?_
                                  refine lv_iload hx hb dX8_readOneOf_32 (lv_at hl 0 rfl) ?_
                                  refine vp_callSi (W.runV (As := [.int 7]) (rest := []) ⟨hx, hb, hml, hown, ht⟩ (c_J0_charAt_5068e_0 l dC dI ak av 7 ⟨by decide, by decide⟩) (kV 1 ht m_715 m_716 m_717 m_91 m_718 rfl rfl hd_J0_charAt_5068e_v ⟨Nat.le_of_ble_eq_true rfl, Nat.le_of_ble_eq_true rfl⟩) (vRZ noP (hK.sub (tys' := []) [] rfl) ((hZ.kept hS.2.1).narrow (fun _ h => h.elim)) (vk_recv hZ.1.2.2.2.2.2 (i := 0) (by decide) hS)) rfl rfl hl.1 rfl (lv_room (Nat.le_of_ble_eq_true rfl)) dX8_readOneOf_34 ⟨Nat.le_of_ble_eq_true rfl, Nat.le_of_ble_eq_true rfl⟩) (fun r37 hr37 => ?_)
                                  obtain rfl : 101 = r37 := (hr37.trans (by decide)).symm
                                  refine lv_bipush (v := 32) hx hb dX8_readOneOf_37 (by decide) ?_
                                  refine lv_icmp_ne (tgt := 71) hx hb dX8_readOneOf_39 (by decide) (fun c38 => ?_) (fun c38 => ?_)
                                  · skip
                                    refine lv_iinc (v := 8) (lv' := [(5, .int 8), (4, .int 4), (3, .int 1), (2, .int r3), (0, .ref (g 11 4)), (1, .ref (ak 0))]) hx hb dX8_readOneOf_71 hl (k := 0) rfl (by decide) (by decide) rfl (fun ls hl => ?_)
                                    refine lv_goto (tgt := 22) hx hb dX8_readOneOf_74 (by decide) ?_
                                    refine lv_iload hx hb dX8_readOneOf_22 (lv_at hl 0 rfl) ?_
                                    refine lv_aload_n hx hb dX8_readOneOf_24 rfl (lv_at hl 5 rfl) ?_
                                    refine vp_callSi (W.runV (As := []) (rest := [.int 8]) ⟨hx, hb, hml, hown, ht⟩ (c_J0_length_8abf5_0 l dC dI ak av) (kV 0 ht m_705 m_706 m_707 m_91 m_708 rfl rfl hd_J0_length_8abf5_v ⟨Nat.le_of_ble_eq_true rfl, Nat.le_of_ble_eq_true rfl⟩) (vRZ noP (hK.sub (tys' := []) [] rfl) ((hZ.kept hS.2.1).narrow (fun _ h => h.elim)) (vk_recv hZ.1.2.2.2.2.2 (i := 0) (by decide) hS)) rfl rfl hl.1 rfl (lv_room (Nat.le_of_ble_eq_true rfl)) dX8_readOneOf_25 ⟨Nat.le_of_ble_eq_true rfl, Nat.le_of_ble_eq_true rfl⟩) (fun r39 hr39 => ?_)
                                    obtain rfl : 21 = r39 := hr39.symm
                                    refine lv_icmp_ge (tgt := 77) hx hb dX8_readOneOf_28 (by decide) (fun c40 => ?_) (fun c40 => ?_)
                                    · exact absurd c40 (by decide)
                                    · skip
                                      refine lv_aload_n hx hb dX8_readOneOf_31 rfl (lv_at hl 5 rfl) ?_
                                      refine lv_iload hx hb dX8_readOneOf_32 (lv_at hl 0 rfl) ?_
                                      refine vp_callSi (W.runV (As := [.int 8]) (rest := []) ⟨hx, hb, hml, hown, ht⟩ (c_J0_charAt_5068e_0 l dC dI ak av 8 ⟨by decide, by decide⟩) (kV 1 ht m_715 m_716 m_717 m_91 m_718 rfl rfl hd_J0_charAt_5068e_v ⟨Nat.le_of_ble_eq_true rfl, Nat.le_of_ble_eq_true rfl⟩) (vRZ noP (hK.sub (tys' := []) [] rfl) ((hZ.kept hS.2.1).narrow (fun _ h => h.elim)) (vk_recv hZ.1.2.2.2.2.2 (i := 0) (by decide) hS)) rfl rfl hl.1 rfl (lv_room (Nat.le_of_ble_eq_true rfl)) dX8_readOneOf_34 ⟨Nat.le_of_ble_eq_true rfl, Nat.le_of_ble_eq_true rfl⟩) (fun r41 hr41 => ?_)
                                      obtain rfl : 32 = r41 := (hr41.trans (by decide)).symm
                                      refine lv_bipush (v := 32) hx hb dX8_readOneOf_37 (by decide) ?_
                                      refine lv_icmp_ne (tgt := 71) hx hb dX8_readOneOf_39 (by decide) (fun c42 => ?_) (fun c42 => ?_)
                                      · exact absurd rfl c42
                                      · skip
                                        refine lv_aload_n hx hb dX8_readOneOf_42 rfl (lv_at hl 4 rfl) ?_
                                        refine lv_aload_n hx hb dX8_readOneOf_43 rfl (lv_at hl 5 rfl) ?_
                                        refine lv_iload hx hb dX8_readOneOf_44 (lv_at hl 1 rfl) ?_
                                        refine lv_iload hx hb dX8_readOneOf_46 (lv_at hl 0 rfl) ?_
                                        refine lv_iload_n hx hb dX8_readOneOf_48 rfl (lv_at hl 3 rfl) ?_
                                        refine vp_callSi (W.runV (As := [.ref (ak 0), .int 4, .int 8, .int r3]) (rest := []) ⟨hx, hb, hml, hown, ht⟩ (c_X8_isSame_g0 l dC dI ak av h g ca (u2 iv 8 5 n2) lv fa la (IX_i (c := 8) (k := 5) hI (show inb (0, 200) n2 from ⟨by omega, by omega⟩)) 4 8 r3 ⟨by decide, by decide⟩ ⟨by decide, by decide⟩ ⟨by omega, by omega⟩) (kV 4 ht m_753 m_755 m_20 m_82 m_756 rfl rfl hd_X8_isSame_v ⟨Nat.le_of_ble_eq_true rfl, Nat.le_of_ble_eq_true rfl⟩) (vRZ hP hK ((hZ.kept hS.2.1).narrow (fun _ h => h.elim)) (rX_8 hK hP)) rfl rfl hl.1 rfl (lv_room (Nat.le_of_ble_eq_true rfl)) dX8_readOneOf_49 ⟨Nat.le_of_ble_eq_true rfl, Nat.le_of_ble_eq_true rfl⟩) (fun r43 hr43 => ?_)
                                        obtain ⟨hr43, xr43_0⟩ := hr43
                                        have : (8 : Int32).toInt = 8 := (by decide)
                                        have : (4 : Int32).toInt = 4 := (by decide)
                                        have xr43_0 : (((r43 : Int32).toInt = 1 ∧ WdG (fun j => ((fa 8 1) j).toInt) (n2 : Int32).toInt (r3 : Int32).toInt ((8 : Int32).toInt - (4 : Int32).toInt) (LsW 0 (4 : Int32).toInt)) ∨ ((r43 : Int32).toInt = 0 ∧ ¬ WdG (fun j => ((fa 8 1) j).toInt) (n2 : Int32).toInt (r3 : Int32).toInt ((8 : Int32).toInt - (4 : Int32).toInt) (LsW 0 (4 : Int32).toInt))) := xr43_0
                                        refine lv_if_eq (tgt := 62) hx hb dX8_readOneOf_52 (by decide) (fun c44 => ?_) (fun c44 => ?_)
                                        · have fc44 := z_eq (rfl : (r43).toInt = _) (by decide : (0 : Int32).toInt = 0) c44
                                          refine lv_iinc (v := 2) (lv' := [(3, .int 2), (5, .int 8), (4, .int 4), (2, .int r3), (0, .ref (g 11 4)), (1, .ref (ak 0))]) hx hb dX8_readOneOf_62 hl (k := 2) rfl (by decide) (by decide) rfl (fun ls hl => ?_)
                                          refine lv_iload hx hb dX8_readOneOf_65 (lv_at hl 1 rfl) ?_
                                          refine lv_iconst (v := 1) hx hb dX8_readOneOf_67 (by decide) ?_
                                          refine lv_iadd hx hb dX8_readOneOf_68 ?_
                                          refine lv_topi (fun v45 ev45 => ?_)
                                          obtain rfl : 9 = v45 := (ev45.trans (by decide)).symm
                                          refine lv_istore (lv' := [(4, .int 9), (3, .int 2), (5, .int 8), (2, .int r3), (0, .ref (g 11 4)), (1, .ref (ak 0))]) hx hb dX8_readOneOf_69 hl (by decide) rfl (fun ls hl => ?_)
                                          refine lv_iinc (v := 9) (lv' := [(5, .int 9), (4, .int 9), (3, .int 2), (2, .int r3), (0, .ref (g 11 4)), (1, .ref (ak 0))]) hx hb dX8_readOneOf_71 hl (k := 2) rfl (by decide) (by decide) rfl (fun ls hl => ?_)
                                          refine lv_goto (tgt := 22) hx hb dX8_readOneOf_74 (by decide) ?_
                                          refine lv_iload hx hb dX8_readOneOf_22 (lv_at hl 0 rfl) ?_
                                          refine lv_aload_n hx hb dX8_readOneOf_24 rfl (lv_at hl 5 rfl) ?_
                                          refine vp_callSi (W.runV (As := []) (rest := [.int 9]) ⟨hx, hb, hml, hown, ht⟩ (c_J0_length_8abf5_0 l dC dI ak av) (kV 0 ht m_705 m_706 m_707 m_91 m_708 rfl rfl hd_J0_length_8abf5_v ⟨Nat.le_of_ble_eq_true rfl, Nat.le_of_ble_eq_true rfl⟩) (vRZ noP (hK.sub (tys' := []) [] rfl) ((hZ.kept hS.2.1).narrow (fun _ h => h.elim)) (vk_recv hZ.1.2.2.2.2.2 (i := 0) (by decide) hS)) rfl rfl hl.1 rfl (lv_room (Nat.le_of_ble_eq_true rfl)) dX8_readOneOf_25 ⟨Nat.le_of_ble_eq_true rfl, Nat.le_of_ble_eq_true rfl⟩) (fun r46 hr46 => ?_)
                                          obtain rfl : 21 = r46 := hr46.symm
                                          refine lv_icmp_ge (tgt := 77) hx hb dX8_readOneOf_28 (by decide) (fun c47 => ?_) (fun c47 => ?_)
                                          · exact absurd c47 (by decide)
                                          · skip
                                            refine lv_aload_n hx hb dX8_readOneOf_31 rfl (lv_at hl 5 rfl) ?_
                                            refine lv_iload hx hb dX8_readOneOf_32 (lv_at hl 0 rfl) ?_
                                            refine vp_callSi (W.runV (As := [.int 9]) (rest := []) ⟨hx, hb, hml, hown, ht⟩ (c_J0_charAt_5068e_0 l dC dI ak av 9 ⟨by decide, by decide⟩) (kV 1 ht m_715 m_716 m_717 m_91 m_718 rfl rfl hd_J0_charAt_5068e_v ⟨Nat.le_of_ble_eq_true rfl, Nat.le_of_ble_eq_true rfl⟩) (vRZ noP (hK.sub (tys' := []) [] rfl) ((hZ.kept hS.2.1).narrow (fun _ h => h.elim)) (vk_recv hZ.1.2.2.2.2.2 (i := 0) (by decide) hS)) rfl rfl hl.1 rfl (lv_room (Nat.le_of_ble_eq_true rfl)) dX8_readOneOf_34 ⟨Nat.le_of_ble_eq_true rfl, Nat.le_of_ble_eq_true rfl⟩) (fun r48 hr48 => ?_)
                                            obtain rfl : 110 = r48 := (hr48.trans (by decide)).symm
                                            refine lv_bipush (v := 32) hx hb dX8_readOneOf_37 (by decide) ?_
                                            refine lv_icmp_ne (tgt := 71) hx hb dX8_readOneOf_39 (by decide) (fun c49 => ?_) (fun c49 => ?_)
                                            · skip
                                              refine lv_iinc (v := 10) (lv' := [(5, .int 10), (4, .int 9), (3, .int 2), (2, .int r3), (0, .ref (g 11 4)), (1, .ref (ak 0))]) hx hb dX8_readOneOf_71 hl (k := 0) rfl (by decide) (by decide) rfl (fun ls hl => ?_)
                                              refine lv_goto (tgt := 22) hx hb dX8_readOneOf_74 (by decide) ?_
                                              refine lv_iload hx hb dX8_readOneOf_22 (lv_at hl 0 rfl) ?_
                                              refine lv_aload_n hx hb dX8_readOneOf_24 rfl (lv_at hl 5 rfl) ?_
                                              refine vp_callSi (W.runV (As := []) (rest := [.int 10]) ⟨hx, hb, hml, hown, ht⟩ (c_J0_length_8abf5_0 l dC dI ak av) (kV 0 ht m_705 m_706 m_707 m_91 m_708 rfl rfl hd_J0_length_8abf5_v ⟨Nat.le_of_ble_eq_true rfl, Nat.le_of_ble_eq_true rfl⟩) (vRZ noP (hK.sub (tys' := []) [] rfl) ((hZ.kept hS.2.1).narrow (fun _ h => h.elim)) (vk_recv hZ.1.2.2.2.2.2 (i := 0) (by decide) hS)) rfl rfl hl.1 rfl (lv_room (Nat.le_of_ble_eq_true rfl)) dX8_readOneOf_25 ⟨Nat.le_of_ble_eq_true rfl, Nat.le_of_ble_eq_true rfl⟩) (fun r50 hr50 => ?_)
                                              obtain rfl : 21 = r50 := hr50.symm
                                              refine lv_icmp_ge (tgt := 77) hx hb dX8_readOneOf_28 (by decide) (fun c51 => ?_) (fun c51 => ?_)
                                              · exact absurd c51 (by decide)
                                              · skip
                                                refine lv_aload_n hx hb dX8_readOneOf_31 rfl (lv_at hl 5 rfl) ?_
                                                refine lv_iload hx hb dX8_readOneOf_32 (lv_at hl 0 rfl) ?_
                                                refine vp_callSi (W.runV (As := [.int 10]) (rest := []) ⟨hx, hb, hml, hown, ht⟩ (c_J0_charAt_5068e_0 l dC dI ak av 10 ⟨by decide, by decide⟩) (kV 1 ht m_715 m_716 m_717 m_91 m_718 rfl rfl hd_J0_charAt_5068e_v ⟨Nat.le_of_ble_eq_true rfl, Nat.le_of_ble_eq_true rfl⟩) (vRZ noP (hK.sub (tys' := []) [] rfl) ((hZ.kept hS.2.1).narrow (fun _ h => h.elim)) (vk_recv hZ.1.2.2.2.2.2 (i := 0) (by decide) hS)) rfl rfl hl.1 rfl (lv_room (Nat.le_of_ble_eq_true rfl)) dX8_readOneOf_34 ⟨Nat.le_of_ble_eq_true rfl, Nat.le_of_ble_eq_true rfl⟩) (fun r52 hr52 => ?_)
                                                obtain rfl : 97 = r52 := (hr52.trans (by decide)).symm
                                                refine lv_bipush (v := 32) hx hb dX8_readOneOf_37 (by decide) ?_
                                                refine lv_icmp_ne (tgt := 71) hx hb dX8_readOneOf_39 (by decide) (fun c53 => ?_) (fun c53 => ?_)
                                                · skip
                                                  refine lv_iinc (v := 11) (lv' := [(5, .int 11), (4, .int 9), (3, .int 2), (2, .int r3), (0, .ref (g 11 4)), (1, .ref (ak 0))]) hx hb dX8_readOneOf_71 hl (k := 0) rfl (by decide) (by decide) rfl (fun ls hl => ?_)
                                                  refine lv_goto (tgt := 22) hx hb dX8_readOneOf_74 (by decide) ?_
                                                  refine lv_iload hx hb dX8_readOneOf_22 (lv_at hl 0 rfl) ?_
                                                  refine lv_aload_n hx hb dX8_readOneOf_24 rfl (lv_at hl 5 rfl) ?_
                                                  refine vp_callSi (W.runV (As := []) (rest := [.int 11]) ⟨hx, hb, hml, hown, ht⟩ (c_J0_length_8abf5_0 l dC dI ak av) (kV 0 ht m_705 m_706 m_707 m_91 m_708 rfl rfl hd_J0_length_8abf5_v ⟨Nat.le_of_ble_eq_true rfl, Nat.le_of_ble_eq_true rfl⟩) (vRZ noP (hK.sub (tys' := []) [] rfl) ((hZ.kept hS.2.1).narrow (fun _ h => h.elim)) (vk_recv hZ.1.2.2.2.2.2 (i := 0) (by decide) hS)) rfl rfl hl.1 rfl (lv_room (Nat.le_of_ble_eq_true rfl)) dX8_readOneOf_25 ⟨Nat.le_of_ble_eq_true rfl, Nat.le_of_ble_eq_true rfl⟩) (fun r54 hr54 => ?_)
                                                  obtain rfl : 21 = r54 := hr54.symm
                                                  refine lv_icmp_ge (tgt := 77) hx hb dX8_readOneOf_28 (by decide) (fun c55 => ?_) (fun c55 => ?_)
                                                  · exact absurd c55 (by decide)
                                                  · skip
                                                    refine lv_aload_n hx hb dX8_readOneOf_31 rfl (lv_at hl 5 rfl) ?_
                                                    refine lv_iload hx hb dX8_readOneOf_32 (lv_at hl 0 rfl) ?_
                                                    refine vp_callSi (W.runV (As := [.int 11]) (rest := []) ⟨hx, hb, hml, hown, ht⟩ (c_J0_charAt_5068e_0 l dC dI ak av 11 ⟨by decide, by decide⟩) (kV 1 ht m_715 m_716 m_717 m_91 m_718 rfl rfl hd_J0_charAt_5068e_v ⟨Nat.le_of_ble_eq_true rfl, Nat.le_of_ble_eq_true rfl⟩) (vRZ noP (hK.sub (tys' := []) [] rfl) ((hZ.kept hS.2.1).narrow (fun _ h => h.elim)) (vk_recv hZ.1.2.2.2.2.2 (i := 0) (by decide) hS)) rfl rfl hl.1 rfl (lv_room (Nat.le_of_ble_eq_true rfl)) dX8_readOneOf_34 ⟨Nat.le_of_ble_eq_true rfl, Nat.le_of_ble_eq_true rfl⟩) (fun r56 hr56 => ?_)
                                                    obtain rfl : 109 = r56 := (hr56.trans (by decide)).symm
                                                    refine lv_bipush (v := 32) hx hb dX8_readOneOf_37 (by decide) ?_
                                                    refine lv_icmp_ne (tgt := 71) hx hb dX8_readOneOf_39 (by decide) (fun c57 => ?_) (fun c57 => ?_)
                                                    · skip
                                                      refine lv_iinc (v := 12) (lv' := [(5, .int 12), (4, .int 9), (3, .int 2), (2, .int r3), (0, .ref (g 11 4)), (1, .ref (ak 0))]) hx hb dX8_readOneOf_71 hl (k := 0) rfl (by decide) (by decide) rfl (fun ls hl => ?_)
                                                      refine lv_goto (tgt := 22) hx hb dX8_readOneOf_74 (by decide) ?_
                                                      refine lv_iload hx hb dX8_readOneOf_22 (lv_at hl 0 rfl) ?_
                                                      refine lv_aload_n hx hb dX8_readOneOf_24 rfl (lv_at hl 5 rfl) ?_
                                                      refine vp_callSi (W.runV (As := []) (rest := [.int 12]) ⟨hx, hb, hml, hown, ht⟩ (c_J0_length_8abf5_0 l dC dI ak av) (kV 0 ht m_705 m_706 m_707 m_91 m_708 rfl rfl hd_J0_length_8abf5_v ⟨Nat.le_of_ble_eq_true rfl, Nat.le_of_ble_eq_true rfl⟩) (vRZ noP (hK.sub (tys' := []) [] rfl) ((hZ.kept hS.2.1).narrow (fun _ h => h.elim)) (vk_recv hZ.1.2.2.2.2.2 (i := 0) (by decide) hS)) rfl rfl hl.1 rfl (lv_room (Nat.le_of_ble_eq_true rfl)) dX8_readOneOf_25 ⟨Nat.le_of_ble_eq_true rfl, Nat.le_of_ble_eq_true rfl⟩) (fun r58 hr58 => ?_)
                                                      obtain rfl : 21 = r58 := hr58.symm
                                                      refine lv_icmp_ge (tgt := 77) hx hb dX8_readOneOf_28 (by decide) (fun c59 => ?_) (fun c59 => ?_)
                                                      · exact absurd c59 (by decide)
                                                      · skip
                                                        refine lv_aload_n hx hb dX8_readOneOf_31 rfl (lv_at hl 5 rfl) ?_
                                                        refine lv_iload hx hb dX8_readOneOf_32 (lv_at hl 0 rfl) ?_
                                                        refine vp_callSi (W.runV (As := [.int 12]) (rest := []) ⟨hx, hb, hml, hown, ht⟩ (c_J0_charAt_5068e_0 l dC dI ak av 12 ⟨by decide, by decide⟩) (kV 1 ht m_715 m_716 m_717 m_91 m_718 rfl rfl hd_J0_charAt_5068e_v ⟨Nat.le_of_ble_eq_true rfl, Nat.le_of_ble_eq_true rfl⟩) (vRZ noP (hK.sub (tys' := []) [] rfl) ((hZ.kept hS.2.1).narrow (fun _ h => h.elim)) (vk_recv hZ.1.2.2.2.2.2 (i := 0) (by decide) hS)) rfl rfl hl.1 rfl (lv_room (Nat.le_of_ble_eq_true rfl)) dX8_readOneOf_34 ⟨Nat.le_of_ble_eq_true rfl, Nat.le_of_ble_eq_true rfl⟩) (fun r60 hr60 => ?_)
                                                        obtain rfl : 101 = r60 := (hr60.trans (by decide)).symm
                                                        refine lv_bipush (v := 32) hx hb dX8_readOneOf_37 (by decide) ?_
                                                        refine lv_icmp_ne (tgt := 71) hx hb dX8_readOneOf_39 (by decide) (fun c61 => ?_) (fun c61 => ?_)
                                                        · skip
                                                          refine lv_iinc (v := 13) (lv' := [(5, .int 13), (4, .int 9), (3, .int 2), (2, .int r3), (0, .ref (g 11 4)), (1, .ref (ak 0))]) hx hb dX8_readOneOf_71 hl (k := 0) rfl (by decide) (by decide) rfl (fun ls hl => ?_)
                                                          refine lv_goto (tgt := 22) hx hb dX8_readOneOf_74 (by decide) ?_
                                                          refine lv_iload hx hb dX8_readOneOf_22 (lv_at hl 0 rfl) ?_
                                                          refine lv_aload_n hx hb dX8_readOneOf_24 rfl (lv_at hl 5 rfl) ?_
                                                          refine vp_callSi (W.runV (As := []) (rest := [.int 13]) ⟨hx, hb, hml, hown, ht⟩ (c_J0_length_8abf5_0 l dC dI ak av) (kV 0 ht m_705 m_706 m_707 m_91 m_708 rfl rfl hd_J0_length_8abf5_v ⟨Nat.le_of_ble_eq_true rfl, Nat.le_of_ble_eq_true rfl⟩) (vRZ noP (hK.sub (tys' := []) [] rfl) ((hZ.kept hS.2.1).narrow (fun _ h => h.elim)) (vk_recv hZ.1.2.2.2.2.2 (i := 0) (by decide) hS)) rfl rfl hl.1 rfl (lv_room (Nat.le_of_ble_eq_true rfl)) dX8_readOneOf_25 ⟨Nat.le_of_ble_eq_true rfl, Nat.le_of_ble_eq_true rfl⟩) (fun r62 hr62 => ?_)
                                                          obtain rfl : 21 = r62 := hr62.symm
                                                          refine lv_icmp_ge (tgt := 77) hx hb dX8_readOneOf_28 (by decide) (fun c63 => ?_) (fun c63 => ?_)
                                                          · exact absurd c63 (by decide)
                                                          · skip
                                                            refine lv_aload_n hx hb dX8_readOneOf_31 rfl (lv_at hl 5 rfl) ?_
                                                            refine lv_iload hx hb dX8_readOneOf_32 (lv_at hl 0 rfl) ?_
                                                            refine vp_callSi (W.runV (As := [.int 13]) (rest := []) ⟨hx, hb, hml, hown, ht⟩ (c_J0_charAt_5068e_0 l dC dI ak av 13 ⟨by decide, by decide⟩) (kV 1 ht m_715 m_716 m_717 m_91 m_718 rfl rfl hd_J0_charAt_5068e_v ⟨Nat.le_of_ble_eq_true rfl, Nat.le_of_ble_eq_true rfl⟩) (vRZ noP (hK.sub (tys' := []) [] rfl) ((hZ.kept hS.2.1).narrow (fun _ h => h.elim)) (vk_recv hZ.1.2.2.2.2.2 (i := 0) (by decide) hS)) rfl rfl hl.1 rfl (lv_room (Nat.le_of_ble_eq_true rfl)) dX8_readOneOf_34 ⟨Nat.le_of_ble_eq_true rfl, Nat.le_of_ble_eq_true rfl⟩) (fun r64 hr64 => ?_)
                                                            obtain rfl : 32 = r64 := (hr64.trans (by decide)).symm
                                                            refine lv_bipush (v := 32) hx hb dX8_readOneOf_37 (by decide) ?_
                                                            refine lv_icmp_ne (tgt := 71) hx hb dX8_readOneOf_39 (by decide) (fun c65 => ?_) (fun c65 => ?_)
                                                            · exact absurd rfl c65
                                                            · skip
                                                              refine lv_aload_n hx hb dX8_readOneOf_42 rfl (lv_at hl 4 rfl) ?_
                                                              refine lv_aload_n hx hb dX8_readOneOf_43 rfl (lv_at hl 5 rfl) ?_
                                                              refine lv_iload hx hb dX8_readOneOf_44 (lv_at hl 1 rfl) ?_
                                                              refine lv_iload hx hb dX8_readOneOf_46 (lv_at hl 0 rfl) ?_
                                                              refine lv_iload_n hx hb dX8_readOneOf_48 rfl (lv_at hl 3 rfl) ?_
                                                              refine vp_callSi (W.runV (As := [.ref (ak 0), .int 9, .int 13, .int r3]) (rest := []) ⟨hx, hb, hml, hown, ht⟩ (c_X8_isSame_g0 l dC dI ak av h g ca (u2 iv 8 5 n2) lv fa la (IX_i (c := 8) (k := 5) hI (show inb (0, 200) n2 from ⟨by omega, by omega⟩)) 9 13 r3 ⟨by decide, by decide⟩ ⟨by decide, by decide⟩ ⟨by omega, by omega⟩) (kV 4 ht m_753 m_755 m_20 m_82 m_756 rfl rfl hd_X8_isSame_v ⟨Nat.le_of_ble_eq_true rfl, Nat.le_of_ble_eq_true rfl⟩) (vRZ hP hK ((hZ.kept hS.2.1).narrow (fun _ h => h.elim)) (rX_8 hK hP)) rfl rfl hl.1 rfl (lv_room (Nat.le_of_ble_eq_true rfl)) dX8_readOneOf_49 ⟨Nat.le_of_ble_eq_true rfl, Nat.le_of_ble_eq_true rfl⟩) (fun r66 hr66 => ?_)
                                                              obtain ⟨hr66, xr66_0⟩ := hr66
                                                              have : (13 : Int32).toInt = 13 := (by decide)
                                                              have : (9 : Int32).toInt = 9 := (by decide)
                                                              have xr66_0 : (((r66 : Int32).toInt = 1 ∧ WdG (fun j => ((fa 8 1) j).toInt) (n2 : Int32).toInt (r3 : Int32).toInt ((13 : Int32).toInt - (9 : Int32).toInt) (LsW 0 (9 : Int32).toInt)) ∨ ((r66 : Int32).toInt = 0 ∧ ¬ WdG (fun j => ((fa 8 1) j).toInt) (n2 : Int32).toInt (r3 : Int32).toInt ((13 : Int32).toInt - (9 : Int32).toInt) (LsW 0 (9 : Int32).toInt))) := xr66_0
                                                              refine lv_if_eq (tgt := 62) hx hb dX8_readOneOf_52 (by decide) (fun c67 => ?_) (fun c67 => ?_)
                                                              · have fc67 := z_eq (rfl : (r66).toInt = _) (by decide : (0 : Int32).toInt = 0) c67
                                                                refine lv_iinc (v := 3) (lv' := [(3, .int 3), (5, .int 13), (4, .int 9), (2, .int r3), (0, .ref (g 11 4)), (1, .ref (ak 0))]) hx hb dX8_readOneOf_62 hl (k := 2) rfl (by decide) (by decide) rfl (fun ls hl => ?_)
                                                                refine lv_iload hx hb dX8_readOneOf_65 (lv_at hl 1 rfl) ?_
                                                                refine lv_iconst (v := 1) hx hb dX8_readOneOf_67 (by decide) ?_
                                                                refine lv_iadd hx hb dX8_readOneOf_68 ?_
                                                                refine lv_topi (fun v68 ev68 => ?_)
                                                                obtain rfl : 14 = v68 := (ev68.trans (by decide)).symm
                                                                refine lv_istore (lv' := [(4, .int 14), (3, .int 3), (5, .int 13), (2, .int r3), (0, .ref (g 11 4)), (1, .ref (ak 0))]) hx hb dX8_readOneOf_69 hl (by decide) rfl (fun ls hl => ?_)
                                                                refine lv_iinc (v := 14) (lv' := [(5, .int 14), (4, .int 14), (3, .int 3), (2, .int r3), (0, .ref (g 11 4)), (1, .ref (ak 0))]) hx hb dX8_readOneOf_71 hl (k := 2) rfl (by decide) (by decide) rfl (fun ls hl => ?_)
                                                                refine lv_goto (tgt := 22) hx hb dX8_readOneOf_74 (by decide) ?_
                                                                refine lv_iload hx hb dX8_readOneOf_22 (lv_at hl 0 rfl) ?_
                                                                refine lv_aload_n hx hb dX8_readOneOf_24 rfl (lv_at hl 5 rfl) ?_
                                                                refine vp_callSi (W.runV (As := []) (rest := [.int 14]) ⟨hx, hb, hml, hown, ht⟩ (c_J0_length_8abf5_0 l dC dI ak av) (kV 0 ht m_705 m_706 m_707 m_91 m_708 rfl rfl hd_J0_length_8abf5_v ⟨Nat.le_of_ble_eq_true rfl, Nat.le_of_ble_eq_true rfl⟩) (vRZ noP (hK.sub (tys' := []) [] rfl) ((hZ.kept hS.2.1).narrow (fun _ h => h.elim)) (vk_recv hZ.1.2.2.2.2.2 (i := 0) (by decide) hS)) rfl rfl hl.1 rfl (lv_room (Nat.le_of_ble_eq_true rfl)) dX8_readOneOf_25 ⟨Nat.le_of_ble_eq_true rfl, Nat.le_of_ble_eq_true rfl⟩) (fun r69 hr69 => ?_)
                                                                obtain rfl : 21 = r69 := hr69.symm
                                                                refine lv_icmp_ge (tgt := 77) hx hb dX8_readOneOf_28 (by decide) (fun c70 => ?_) (fun c70 => ?_)
                                                                · exact absurd c70 (by decide)
                                                                · skip
                                                                  refine lv_aload_n hx hb dX8_readOneOf_31 rfl (lv_at hl 5 rfl) ?_
                                                                  refine lv_iload hx hb dX8_readOneOf_32 (lv_at hl 0 rfl) ?_
                                                                  refine vp_callSi (W.runV (As := [.int 14]) (rest := []) ⟨hx, hb, hml, hown, ht⟩ (c_J0_charAt_5068e_0 l dC dI ak av 14 ⟨by decide, by decide⟩) (kV 1 ht m_715 m_716 m_717 m_91 m_718 rfl rfl hd_J0_charAt_5068e_v ⟨Nat.le_of_ble_eq_true rfl, Nat.le_of_ble_eq_true rfl⟩) (vRZ noP (hK.sub (tys' := []) [] rfl) ((hZ.kept hS.2.1).narrow (fun _ h => h.elim)) (vk_recv hZ.1.2.2.2.2.2 (i := 0) (by decide) hS)) rfl rfl hl.1 rfl (lv_room (Nat.le_of_ble_eq_true rfl)) dX8_readOneOf_34 ⟨Nat.le_of_ble_eq_true rfl, Nat.le_of_ble_eq_true rfl⟩) (fun r71 hr71 => ?_)
                                                                  obtain rfl : 115 = r71 := (hr71.trans (by decide)).symm
                                                                  refine lv_bipush (v := 32) hx hb dX8_readOneOf_37 (by decide) ?_
                                                                  refine lv_icmp_ne (tgt := 71) hx hb dX8_readOneOf_39 (by decide) (fun c72 => ?_) (fun c72 => ?_)
                                                                  · skip
                                                                    refine lv_iinc (v := 15) (lv' := [(5, .int 15), (4, .int 14), (3, .int 3), (2, .int r3), (0, .ref (g 11 4)), (1, .ref (ak 0))]) hx hb dX8_readOneOf_71 hl (k := 0) rfl (by decide) (by decide) rfl (fun ls hl => ?_)
                                                                    refine lv_goto (tgt := 22) hx hb dX8_readOneOf_74 (by decide) ?_
                                                                    refine lv_iload hx hb dX8_readOneOf_22 (lv_at hl 0 rfl) ?_
                                                                    refine lv_aload_n hx hb dX8_readOneOf_24 rfl (lv_at hl 5 rfl) ?_
                                                                    refine vp_callSi (W.runV (As := []) (rest := [.int 15]) ⟨hx, hb, hml, hown, ht⟩ (c_J0_length_8abf5_0 l dC dI ak av) (kV 0 ht m_705 m_706 m_707 m_91 m_708 rfl rfl hd_J0_length_8abf5_v ⟨Nat.le_of_ble_eq_true rfl, Nat.le_of_ble_eq_true rfl⟩) (vRZ noP (hK.sub (tys' := []) [] rfl) ((hZ.kept hS.2.1).narrow (fun _ h => h.elim)) (vk_recv hZ.1.2.2.2.2.2 (i := 0) (by decide) hS)) rfl rfl hl.1 rfl (lv_room (Nat.le_of_ble_eq_true rfl)) dX8_readOneOf_25 ⟨Nat.le_of_ble_eq_true rfl, Nat.le_of_ble_eq_true rfl⟩) (fun r73 hr73 => ?_)
                                                                    obtain rfl : 21 = r73 := hr73.symm
                                                                    refine lv_icmp_ge (tgt := 77) hx hb dX8_readOneOf_28 (by decide) (fun c74 => ?_) (fun c74 => ?_)
                                                                    · exact absurd c74 (by decide)
                                                                    · skip
                                                                      refine lv_aload_n hx hb dX8_readOneOf_31 rfl (lv_at hl 5 rfl) ?_
                                                                      refine lv_iload hx hb dX8_readOneOf_32 (lv_at hl 0 rfl) ?_
                                                                      refine vp_callSi (W.runV (As := [.int 15]) (rest := []) ⟨hx, hb, hml, hown, ht⟩ (c_J0_charAt_5068e_0 l dC dI ak av 15 ⟨by decide, by decide⟩) (kV 1 ht m_715 m_716 m_717 m_91 m_718 rfl rfl hd_J0_charAt_5068e_v ⟨Nat.le_of_ble_eq_true rfl, Nat.le_of_ble_eq_true rfl⟩) (vRZ noP (hK.sub (tys' := []) [] rfl) ((hZ.kept hS.2.1).narrow (fun _ h => h.elim)) (vk_recv hZ.1.2.2.2.2.2 (i := 0) (by decide) hS)) rfl rfl hl.1 rfl (lv_room (Nat.le_of_ble_eq_true rfl)) dX8_readOneOf_34 ⟨Nat.le_of_ble_eq_true rfl, Nat.le_of_ble_eq_true rfl⟩) (fun r75 hr75 => ?_)
                                                                      obtain rfl : 116 = r75 := (hr75.trans (by decide)).symm
                                                                      refine lv_bipush (v := 32) hx hb dX8_readOneOf_37 (by decide) ?_
                                                                      refine lv_icmp_ne (tgt := 71) hx hb dX8_readOneOf_39 (by decide) (fun c76 => ?_) (fun c76 => ?_)
                                                                      · skip
                                                                        refine lv_iinc (v := 16) (lv' := [(5, .int 16), (4, .int 14), (3, .int 3), (2, .int r3), (0, .ref (g 11 4)), (1, .ref (ak 0))]) hx hb dX8_readOneOf_71 hl (k := 0) rfl (by decide) (by decide) rfl (fun ls hl => ?_)
                                                                        refine lv_goto (tgt := 22) hx hb dX8_readOneOf_74 (by decide) ?_
                                                                        refine lv_iload hx hb dX8_readOneOf_22 (lv_at hl 0 rfl) ?_
                                                                        refine lv_aload_n hx hb dX8_readOneOf_24 rfl (lv_at hl 5 rfl) ?_
                                                                        refine vp_callSi (W.runV (As := []) (rest := [.int 16]) ⟨hx, hb, hml, hown, ht⟩ (c_J0_length_8abf5_0 l dC dI ak av) (kV 0 ht m_705 m_706 m_707 m_91 m_708 rfl rfl hd_J0_length_8abf5_v ⟨Nat.le_of_ble_eq_true rfl, Nat.le_of_ble_eq_true rfl⟩) (vRZ noP (hK.sub (tys' := []) [] rfl) ((hZ.kept hS.2.1).narrow (fun _ h => h.elim)) (vk_recv hZ.1.2.2.2.2.2 (i := 0) (by decide) hS)) rfl rfl hl.1 rfl (lv_room (Nat.le_of_ble_eq_true rfl)) dX8_readOneOf_25 ⟨Nat.le_of_ble_eq_true rfl, Nat.le_of_ble_eq_true rfl⟩) (fun r77 hr77 => ?_)
                                                                        obtain rfl : 21 = r77 := hr77.symm
                                                                        refine lv_icmp_ge (tgt := 77) hx hb dX8_readOneOf_28 (by decide) (fun c78 => ?_) (fun c78 => ?_)
                                                                        · exact absurd c78 (by decide)
                                                                        · skip
                                                                          refine lv_aload_n hx hb dX8_readOneOf_31 rfl (lv_at hl 5 rfl) ?_
                                                                          refine lv_iload hx hb dX8_readOneOf_32 (lv_at hl 0 rfl) ?_
                                                                          refine vp_callSi (W.runV (As := [.int 16]) (rest := []) ⟨hx, hb, hml, hown, ht⟩ (c_J0_charAt_5068e_0 l dC dI ak av 16 ⟨by decide, by decide⟩) (kV 1 ht m_715 m_716 m_717 m_91 m_718 rfl rfl hd_J0_charAt_5068e_v ⟨Nat.le_of_ble_eq_true rfl, Nat.le_of_ble_eq_true rfl⟩) (vRZ noP (hK.sub (tys' := []) [] rfl) ((hZ.kept hS.2.1).narrow (fun _ h => h.elim)) (vk_recv hZ.1.2.2.2.2.2 (i := 0) (by decide) hS)) rfl rfl hl.1 rfl (lv_room (Nat.le_of_ble_eq_true rfl)) dX8_readOneOf_34 ⟨Nat.le_of_ble_eq_true rfl, Nat.le_of_ble_eq_true rfl⟩) (fun r79 hr79 => ?_)
                                                                          obtain rfl : 114 = r79 := (hr79.trans (by decide)).symm
                                                                          refine lv_bipush (v := 32) hx hb dX8_readOneOf_37 (by decide) ?_
                                                                          refine lv_icmp_ne (tgt := 71) hx hb dX8_readOneOf_39 (by decide) (fun c80 => ?_) (fun c80 => ?_)
                                                                          · skip
                                                                            refine lv_iinc (v := 17) (lv' := [(5, .int 17), (4, .int 14), (3, .int 3), (2, .int r3), (0, .ref (g 11 4)), (1, .ref (ak 0))]) hx hb dX8_readOneOf_71 hl (k := 0) rfl (by decide) (by decide) rfl (fun ls hl => ?_)
                                                                            refine lv_goto (tgt := 22) hx hb dX8_readOneOf_74 (by decide) ?_
                                                                            refine lv_iload hx hb dX8_readOneOf_22 (lv_at hl 0 rfl) ?_
                                                                            refine lv_aload_n hx hb dX8_readOneOf_24 rfl (lv_at hl 5 rfl) ?_
                                                                            refine vp_callSi (W.runV (As := []) (rest := [.int 17]) ⟨hx, hb, hml, hown, ht⟩ (c_J0_length_8abf5_0 l dC dI ak av) (kV 0 ht m_705 m_706 m_707 m_91 m_708 rfl rfl hd_J0_length_8abf5_v ⟨Nat.le_of_ble_eq_true rfl, Nat.le_of_ble_eq_true rfl⟩) (vRZ noP (hK.sub (tys' := []) [] rfl) ((hZ.kept hS.2.1).narrow (fun _ h => h.elim)) (vk_recv hZ.1.2.2.2.2.2 (i := 0) (by decide) hS)) rfl rfl hl.1 rfl (lv_room (Nat.le_of_ble_eq_true rfl)) dX8_readOneOf_25 ⟨Nat.le_of_ble_eq_true rfl, Nat.le_of_ble_eq_true rfl⟩) (fun r81 hr81 => ?_)
                                                                            obtain rfl : 21 = r81 := hr81.symm
                                                                            refine lv_icmp_ge (tgt := 77) hx hb dX8_readOneOf_28 (by decide) (fun c82 => ?_) (fun c82 => ?_)
                                                                            · exact absurd c82 (by decide)
                                                                            · skip
                                                                              refine lv_aload_n hx hb dX8_readOneOf_31 rfl (lv_at hl 5 rfl) ?_
                                                                              refine lv_iload hx hb dX8_readOneOf_32 (lv_at hl 0 rfl) ?_
                                                                              refine vp_callSi (W.runV (As := [.int 17]) (rest := []) ⟨hx, hb, hml, hown, ht⟩ (c_J0_charAt_5068e_0 l dC dI ak av 17 ⟨by decide, by decide⟩) (kV 1 ht m_715 m_716 m_717 m_91 m_718 rfl rfl hd_J0_charAt_5068e_v ⟨Nat.le_of_ble_eq_true rfl, Nat.le_of_ble_eq_true rfl⟩) (vRZ noP (hK.sub (tys' := []) [] rfl) ((hZ.kept hS.2.1).narrow (fun _ h => h.elim)) (vk_recv hZ.1.2.2.2.2.2 (i := 0) (by decide) hS)) rfl rfl hl.1 rfl (lv_room (Nat.le_of_ble_eq_true rfl)) dX8_readOneOf_34 ⟨Nat.le_of_ble_eq_true rfl, Nat.le_of_ble_eq_true rfl⟩) (fun r83 hr83 => ?_)
                                                                              obtain rfl : 105 = r83 := (hr83.trans (by decide)).symm
                                                                              refine lv_bipush (v := 32) hx hb dX8_readOneOf_37 (by decide) ?_
                                                                              refine lv_icmp_ne (tgt := 71) hx hb dX8_readOneOf_39 (by decide) (fun c84 => ?_) (fun c84 => ?_)
                                                                              · skip
                                                                                refine lv_iinc (v := 18) (lv' := [(5, .int 18), (4, .int 14), (3, .int 3), (2, .int r3), (0, .ref (g 11 4)), (1, .ref (ak 0))]) hx hb dX8_readOneOf_71 hl (k := 0) rfl (by decide) (by decide) rfl (fun ls hl => ?_)
                                                                                refine lv_goto (tgt := 22) hx hb dX8_readOneOf_74 (by decide) ?_
                                                                                refine lv_iload hx hb dX8_readOneOf_22 (lv_at hl 0 rfl) ?_
                                                                                refine lv_aload_n hx hb dX8_readOneOf_24 rfl (lv_at hl 5 rfl) ?_
                                                                                refine vp_callSi (W.runV (As := []) (rest := [.int 18]) ⟨hx, hb, hml, hown, ht⟩ (c_J0_length_8abf5_0 l dC dI ak av) (kV 0 ht m_705 m_706 m_707 m_91 m_708 rfl rfl hd_J0_length_8abf5_v ⟨Nat.le_of_ble_eq_true rfl, Nat.le_of_ble_eq_true rfl⟩) (vRZ noP (hK.sub (tys' := []) [] rfl) ((hZ.kept hS.2.1).narrow (fun _ h => h.elim)) (vk_recv hZ.1.2.2.2.2.2 (i := 0) (by decide) hS)) rfl rfl hl.1 rfl (lv_room (Nat.le_of_ble_eq_true rfl)) dX8_readOneOf_25 ⟨Nat.le_of_ble_eq_true rfl, Nat.le_of_ble_eq_true rfl⟩) (fun r85 hr85 => ?_)
                                                                                obtain rfl : 21 = r85 := hr85.symm
                                                                                refine lv_icmp_ge (tgt := 77) hx hb dX8_readOneOf_28 (by decide) (fun c86 => ?_) (fun c86 => ?_)
                                                                                · exact absurd c86 (by decide)
                                                                                · skip
                                                                                  refine lv_aload_n hx hb dX8_readOneOf_31 rfl (lv_at hl 5 rfl) ?_
                                                                                  refine lv_iload hx hb dX8_readOneOf_32 (lv_at hl 0 rfl) ?_
                                                                                  refine vp_callSi (W.runV (As := [.int 18]) (rest := []) ⟨hx, hb, hml, hown, ht⟩ (c_J0_charAt_5068e_0 l dC dI ak av 18 ⟨by decide, by decide⟩) (kV 1 ht m_715 m_716 m_717 m_91 m_718 rfl rfl hd_J0_charAt_5068e_v ⟨Nat.le_of_ble_eq_true rfl, Nat.le_of_ble_eq_true rfl⟩) (vRZ noP (hK.sub (tys' := []) [] rfl) ((hZ.kept hS.2.1).narrow (fun _ h => h.elim)) (vk_recv hZ.1.2.2.2.2.2 (i := 0) (by decide) hS)) rfl rfl hl.1 rfl (lv_room (Nat.le_of_ble_eq_true rfl)) dX8_readOneOf_34 ⟨Nat.le_of_ble_eq_true rfl, Nat.le_of_ble_eq_true rfl⟩) (fun r87 hr87 => ?_)
                                                                                  obtain rfl : 107 = r87 := (hr87.trans (by decide)).symm
                                                                                  refine lv_bipush (v := 32) hx hb dX8_readOneOf_37 (by decide) ?_
                                                                                  refine lv_icmp_ne (tgt := 71) hx hb dX8_readOneOf_39 (by decide) (fun c88 => ?_) (fun c88 => ?_)
                                                                                  · skip
                                                                                    refine lv_iinc (v := 19) (lv' := [(5, .int 19), (4, .int 14), (3, .int 3), (2, .int r3), (0, .ref (g 11 4)), (1, .ref (ak 0))]) hx hb dX8_readOneOf_71 hl (k := 0) rfl (by decide) (by decide) rfl (fun ls hl => ?_)
                                                                                    refine lv_goto (tgt := 22) hx hb dX8_readOneOf_74 (by decide) ?_
                                                                                    refine lv_iload hx hb dX8_readOneOf_22 (lv_at hl 0 rfl) ?_
                                                                                    refine lv_aload_n hx hb dX8_readOneOf_24 rfl (lv_at hl 5 rfl) ?_
                                                                                    refine vp_callSi (W.runV (As := []) (rest := [.int 19]) ⟨hx, hb, hml, hown, ht⟩ (c_J0_length_8abf5_0 l dC dI ak av) (kV 0 ht m_705 m_706 m_707 m_91 m_708 rfl rfl hd_J0_length_8abf5_v ⟨Nat.le_of_ble_eq_true rfl, Nat.le_of_ble_eq_true rfl⟩) (vRZ noP (hK.sub (tys' := []) [] rfl) ((hZ.kept hS.2.1).narrow (fun _ h => h.elim)) (vk_recv hZ.1.2.2.2.2.2 (i := 0) (by decide) hS)) rfl rfl hl.1 rfl (lv_room (Nat.le_of_ble_eq_true rfl)) dX8_readOneOf_25 ⟨Nat.le_of_ble_eq_true rfl, Nat.le_of_ble_eq_true rfl⟩) (fun r89 hr89 => ?_)
                                                                                    obtain rfl : 21 = r89 := hr89.symm
                                                                                    refine lv_icmp_ge (tgt := 77) hx hb dX8_readOneOf_28 (by decide) (fun c90 => ?_) (fun c90 => ?_)
                                                                                    · exact absurd c90 (by decide)
                                                                                    · skip
                                                                                      refine lv_aload_n hx hb dX8_readOneOf_31 rfl (lv_at hl 5 rfl) ?_
                                                                                      refine lv_iload hx hb dX8_readOneOf_32 (lv_at hl 0 rfl) ?_
                                                                                      refine vp_callSi (W.runV (As := [.int 19]) (rest := []) ⟨hx, hb, hml, hown, ht⟩ (c_J0_charAt_5068e_0 l dC dI ak av 19 ⟨by decide, by decide⟩) (kV 1 ht m_715 m_716 m_717 m_91 m_718 rfl rfl hd_J0_charAt_5068e_v ⟨Nat.le_of_ble_eq_true rfl, Nat.le_of_ble_eq_true rfl⟩) (vRZ noP (hK.sub (tys' := []) [] rfl) ((hZ.kept hS.2.1).narrow (fun _ h => h.elim)) (vk_recv hZ.1.2.2.2.2.2 (i := 0) (by decide) hS)) rfl rfl hl.1 rfl (lv_room (Nat.le_of_ble_eq_true rfl)) dX8_readOneOf_34 ⟨Nat.le_of_ble_eq_true rfl, Nat.le_of_ble_eq_true rfl⟩) (fun r91 hr91 => ?_)
                                                                                      obtain rfl : 101 = r91 := (hr91.trans (by decide)).symm
                                                                                      refine lv_bipush (v := 32) hx hb dX8_readOneOf_37 (by decide) ?_
                                                                                      refine lv_icmp_ne (tgt := 71) hx hb dX8_readOneOf_39 (by decide) (fun c92 => ?_) (fun c92 => ?_)
                                                                                      · skip
                                                                                        refine lv_iinc (v := 20) (lv' := [(5, .int 20), (4, .int 14), (3, .int 3), (2, .int r3), (0, .ref (g 11 4)), (1, .ref (ak 0))]) hx hb dX8_readOneOf_71 hl (k := 0) rfl (by decide) (by decide) rfl (fun ls hl => ?_)
                                                                                        refine lv_goto (tgt := 22) hx hb dX8_readOneOf_74 (by decide) ?_
                                                                                        refine lv_iload hx hb dX8_readOneOf_22 (lv_at hl 0 rfl) ?_
                                                                                        refine lv_aload_n hx hb dX8_readOneOf_24 rfl (lv_at hl 5 rfl) ?_
                                                                                        refine vp_callSi (W.runV (As := []) (rest := [.int 20]) ⟨hx, hb, hml, hown, ht⟩ (c_J0_length_8abf5_0 l dC dI ak av) (kV 0 ht m_705 m_706 m_707 m_91 m_708 rfl rfl hd_J0_length_8abf5_v ⟨Nat.le_of_ble_eq_true rfl, Nat.le_of_ble_eq_true rfl⟩) (vRZ noP (hK.sub (tys' := []) [] rfl) ((hZ.kept hS.2.1).narrow (fun _ h => h.elim)) (vk_recv hZ.1.2.2.2.2.2 (i := 0) (by decide) hS)) rfl rfl hl.1 rfl (lv_room (Nat.le_of_ble_eq_true rfl)) dX8_readOneOf_25 ⟨Nat.le_of_ble_eq_true rfl, Nat.le_of_ble_eq_true rfl⟩) (fun r93 hr93 => ?_)
                                                                                        obtain rfl : 21 = r93 := hr93.symm
                                                                                        refine lv_icmp_ge (tgt := 77) hx hb dX8_readOneOf_28 (by decide) (fun c94 => ?_) (fun c94 => ?_)
                                                                                        · exact absurd c94 (by decide)
                                                                                        · skip
                                                                                          refine lv_aload_n hx hb dX8_readOneOf_31 rfl (lv_at hl 5 rfl) ?_
                                                                                          refine lv_iload hx hb dX8_readOneOf_32 (lv_at hl 0 rfl) ?_
                                                                                          refine vp_callSi (W.runV (As := [.int 20]) (rest := []) ⟨hx, hb, hml, hown, ht⟩ (c_J0_charAt_5068e_0 l dC dI ak av 20 ⟨by decide, by decide⟩) (kV 1 ht m_715 m_716 m_717 m_91 m_718 rfl rfl hd_J0_charAt_5068e_v ⟨Nat.le_of_ble_eq_true rfl, Nat.le_of_ble_eq_true rfl⟩) (vRZ noP (hK.sub (tys' := []) [] rfl) ((hZ.kept hS.2.1).narrow (fun _ h => h.elim)) (vk_recv hZ.1.2.2.2.2.2 (i := 0) (by decide) hS)) rfl rfl hl.1 rfl (lv_room (Nat.le_of_ble_eq_true rfl)) dX8_readOneOf_34 ⟨Nat.le_of_ble_eq_true rfl, Nat.le_of_ble_eq_true rfl⟩) (fun r95 hr95 => ?_)
                                                                                          obtain rfl : 32 = r95 := (hr95.trans (by decide)).symm
                                                                                          refine lv_bipush (v := 32) hx hb dX8_readOneOf_37 (by decide) ?_
                                                                                          refine lv_icmp_ne (tgt := 71) hx hb dX8_readOneOf_39 (by decide) (fun c96 => ?_) (fun c96 => ?_)
                                                                                          · exact absurd rfl c96
                                                                                          · skip
                                                                                            refine lv_aload_n hx hb dX8_readOneOf_42 rfl (lv_at hl 4 rfl) ?_
                                                                                            refine lv_aload_n hx hb dX8_readOneOf_43 rfl (lv_at hl 5 rfl) ?_
                                                                                            refine lv_iload hx hb dX8_readOneOf_44 (lv_at hl 1 rfl) ?_
                                                                                            refine lv_iload hx hb dX8_readOneOf_46 (lv_at hl 0 rfl) ?_
                                                                                            refine lv_iload_n hx hb dX8_readOneOf_48 rfl (lv_at hl 3 rfl) ?_
                                                                                            refine vp_callSi (W.runV (As := [.ref (ak 0), .int 14, .int 20, .int r3]) (rest := []) ⟨hx, hb, hml, hown, ht⟩ (c_X8_isSame_g0 l dC dI ak av h g ca (u2 iv 8 5 n2) lv fa la (IX_i (c := 8) (k := 5) hI (show inb (0, 200) n2 from ⟨by omega, by omega⟩)) 14 20 r3 ⟨by decide, by decide⟩ ⟨by decide, by decide⟩ ⟨by omega, by omega⟩) (kV 4 ht m_753 m_755 m_20 m_82 m_756 rfl rfl hd_X8_isSame_v ⟨Nat.le_of_ble_eq_true rfl, Nat.le_of_ble_eq_true rfl⟩) (vRZ hP hK ((hZ.kept hS.2.1).narrow (fun _ h => h.elim)) (rX_8 hK hP)) rfl rfl hl.1 rfl (lv_room (Nat.le_of_ble_eq_true rfl)) dX8_readOneOf_49 ⟨Nat.le_of_ble_eq_true rfl, Nat.le_of_ble_eq_true rfl⟩) (fun r97 hr97 => ?_)
                                                                                            obtain ⟨hr97, xr97_0⟩ := hr97
                                                                                            have : (20 : Int32).toInt = 20 := (by decide)
                                                                                            have : (14 : Int32).toInt = 14 := (by decide)
                                                                                            have xr97_0 : (((r97 : Int32).toInt = 1 ∧ WdG (fun j => ((fa 8 1) j).toInt) (n2 : Int32).toInt (r3 : Int32).toInt ((20 : Int32).toInt - (14 : Int32).toInt) (LsW 0 (14 : Int32).toInt)) ∨ ((r97 : Int32).toInt = 0 ∧ ¬ WdG (fun j => ((fa 8 1) j).toInt) (n2 : Int32).toInt (r3 : Int32).toInt ((20 : Int32).toInt - (14 : Int32).toInt) (LsW 0 (14 : Int32).toInt))) := xr97_0
                                                                                            refine lv_if_eq (tgt := 62) hx hb dX8_readOneOf_52 (by decide) (fun c98 => ?_) (fun c98 => ?_)
                                                                                            · have fc98 := z_eq (rfl : (r97).toInt = _) (by decide : (0 : Int32).toInt = 0) c98
                                                                                              refine lv_iinc (v := 4) (lv' := [(3, .int 4), (5, .int 20), (4, .int 14), (2, .int r3), (0, .ref (g 11 4)), (1, .ref (ak 0))]) hx hb dX8_readOneOf_62 hl (k := 2) rfl (by decide) (by decide) rfl (fun ls hl => ?_)
                                                                                              refine lv_iload hx hb dX8_readOneOf_65 (lv_at hl 1 rfl) ?_
                                                                                              refine lv_iconst (v := 1) hx hb dX8_readOneOf_67 (by decide) ?_
                                                                                              refine lv_iadd hx hb dX8_readOneOf_68 ?_
                                                                                              refine lv_topi (fun v99 ev99 => ?_)
                                                                                              obtain rfl : 21 = v99 := (ev99.trans (by decide)).symm
                                                                                              refine lv_istore (lv' := [(4, .int 21), (3, .int 4), (5, .int 20), (2, .int r3), (0, .ref (g 11 4)), (1, .ref (ak 0))]) hx hb dX8_readOneOf_69 hl (by decide) rfl (fun ls hl => ?_)
                                                                                              refine lv_iinc (v := 21) (lv' := [(5, .int 21), (4, .int 21), (3, .int 4), (2, .int r3), (0, .ref (g 11 4)), (1, .ref (ak 0))]) hx hb dX8_readOneOf_71 hl (k := 2) rfl (by decide) (by decide) rfl (fun ls hl => ?_)
                                                                                              refine lv_goto (tgt := 22) hx hb dX8_readOneOf_74 (by decide) ?_
                                                                                              refine lv_iload hx hb dX8_readOneOf_22 (lv_at hl 0 rfl) ?_
                                                                                              refine lv_aload_n hx hb dX8_readOneOf_24 rfl (lv_at hl 5 rfl) ?_
                                                                                              refine vp_callSi (W.runV (As := []) (rest := [.int 21]) ⟨hx, hb, hml, hown, ht⟩ (c_J0_length_8abf5_0 l dC dI ak av) (kV 0 ht m_705 m_706 m_707 m_91 m_708 rfl rfl hd_J0_length_8abf5_v ⟨Nat.le_of_ble_eq_true rfl, Nat.le_of_ble_eq_true rfl⟩) (vRZ noP (hK.sub (tys' := []) [] rfl) ((hZ.kept hS.2.1).narrow (fun _ h => h.elim)) (vk_recv hZ.1.2.2.2.2.2 (i := 0) (by decide) hS)) rfl rfl hl.1 rfl (lv_room (Nat.le_of_ble_eq_true rfl)) dX8_readOneOf_25 ⟨Nat.le_of_ble_eq_true rfl, Nat.le_of_ble_eq_true rfl⟩) (fun r100 hr100 => ?_)
                                                                                              obtain rfl : 21 = r100 := hr100.symm
                                                                                              refine lv_icmp_ge (tgt := 77) hx hb dX8_readOneOf_28 (by decide) (fun c101 => ?_) (fun c101 => ?_)
                                                                                              · skip
                                                                                                refine lv_aload_n hx hb dX8_readOneOf_77 rfl (lv_at hl 4 rfl) ?_
                                                                                                refine lv_iconst (v := 1) hx hb dX8_readOneOf_78 (by decide) ?_
                                                                                                refine lv_aload_n hx hb dX8_readOneOf_79 rfl (lv_at hl 4 rfl) ?_
                                                                                                refine gX_8_5 hx hb ht hown hK hP m_235 (v := n2) rfl dX8_readOneOf_80 ?_
                                                                                                have hFc := free_all hD hS hA
                                                                                                refine va_calli (va_runV (As := [.int 1, .int n2]) (rest := []) ⟨hx, hb, hml, hown, ht⟩ (c_X8_fail_r l dC dI H.size h g ca (u2 iv 8 5 n2) lv fa la (IX_i (c := 8) (k := 5) hI (show inb (0, 200) n2 from ⟨by omega, by omega⟩)) 1 n2 ⟨by decide, by decide⟩ ⟨by omega, by omega⟩) (kV 2 ht m_757 m_759 m_21 m_82 m_760 rfl rfl hd_X8_fail_v ⟨Nat.le_of_ble_eq_true rfl, Nat.le_of_ble_eq_true rfl⟩) (vW hP hK hD (rX_8 hK hP)) rfl rfl hl.1 rfl (lv_room (Nat.le_of_ble_eq_true rfl)) dX8_readOneOf_83 ⟨Nat.le_of_ble_eq_true rfl, Nat.le_of_ble_eq_true rfl⟩) hS (fun q _ h => hFc q h) hFc (fun r102 u t H1 locs ht9 hvm hr102 hB hz1 hk1 hS => ?_)
                                                                                                obtain ⟨n103, n104, hn103, hn104, xr102_0, xr102_1, hr102, rfl⟩ := hr102
                                                                                                have hn103 : (-1) ≤ n103.toInt ∧ n103.toInt ≤ 200 := hn103
                                                                                                have hn104 : 0 ≤ n104.toInt ∧ n104.toInt ≤ 5 := hn104
                                                                                                obtain ⟨hP, hD⟩ := hB
                                                                                                rw [ht9] at hP
                                                                                                generalize H1 = H at hP hS ⊢
                                                                                                have hP : va_P (dC, dI) classes (WX h g ca (u2 (u2 (u2 iv 8 5 n2) 8 3 n103) 8 4 n104) lv fa la) H := hP
                                                                                                have hD : va_D A (WX h g ca (u2 (u2 (u2 iv 8 5 n2) 8 3 n103) 8 4 n104) lv fa la) := (show va_D _ (WX h g ca (u2 (u2 (u2 iv 8 5 n2) 8 3 n103) 8 4 n104) lv fa la) from hD).weaken (fun _ _ _ h => hFc _ h)
                                                                                                have : (1 : Int32).toInt = 1 := (by decide)
                                                                                                have xr102_0 : (n104 : Int32).toInt = (1 : Int32).toInt := xr102_0
                                                                                                have xr102_1 : (n103 : Int32).toInt = (n2 : Int32).toInt := xr102_1
                                                                                                refine lv_pop hx hb dX8_readOneOf_86 rfl ?_
                                                                                                refine lv_iconst (v := (-1)) hx hb dX8_readOneOf_87 (by decide) ?_
                                                                                                have : ((-1) : Int32).toInt = (-1) := (by decide)
                                                                                                have hP9 : va_P (dC, dI) classes (WX h g ca (u2 (u2 (u2 iv 8 3 n103) 8 4 n104) 8 5 n2) lv fa la) H := hP
                                                                                                have hD9 : va_D A (WX h g ca (u2 (u2 (u2 iv 8 3 n103) 8 4 n104) 8 5 n2) lv fa la) := hD
                                                                                                exact W.iret (v := (-1)) hx hb hr (fun t ht9 hW => ⟨⟨(-1), ((u2 (u2 (u2 iv 8 3 n103) 8 4 n104) 8 5 n2), lv, fa, la), rfl, ⟨n103, n104, n2, (show inb ((-1), 200) n103 from ⟨by omega, by omega⟩), (show inb (0, 5) n104 from ⟨by omega, by omega⟩), (show inb (0, 200) n2 from ⟨by omega, by omega⟩), (show ∃ s e : Int, Sk (fun j => ((fa 8 1) j).toInt) ((iv 8 2) : Int32).toInt (iv 8 5).toInt s ∧ Rn (fun j => ((fa 8 1) j).toInt) ((iv 8 2) : Int32).toInt 97 122 s e ∧ ((((-1) : Int32).toInt = -1 ∧ kwK (fun j => ((fa 8 1) j).toInt) s e = -1 ∧ (n104 : Int32).toInt = 1 ∧ (n103 : Int32).toInt = s) ∨ (0 ≤ ((-1) : Int32).toInt ∧ ((-1) : Int32).toInt = kwK (fun j => ((fa 8 1) j).toInt) s e ∧ (n104 : Int32).toInt = (iv 8 4).toInt ∧ (n103 : Int32).toInt = (iv 8 3).toInt ∧ (n2 : Int32).toInt = e)) from (by have g0 := ((cs_0_0 xr20_0).resolve_left (fun q => by omega)).2; have g1 := ((cs_0_4 xr43_0).resolve_left (fun q => by omega)).2; have g2 := ((cs_0_9 xr66_0).resolve_left (fun q => by omega)).2; have g3 := ((cs_0_14 xr97_0).resolve_left (fun q => by omega)).2; exact ⟨_, _, xr1_0, xr3_0, Or.inl ⟨by omega, (by unfold kwK; rw [if_neg g0, if_neg g1, if_neg g2, if_neg g3]), by omega, by omega⟩⟩)), ⟨by decide, by decide⟩, rfl⟩, by rw [ht9]; exact hP9, hD9⟩, hS.F ht9⟩) hS.2.2 dX8_readOneOf_88
                                                                                              · exact absurd c101 (by decide)
                                                                                            · have fc98 := z_ne (rfl : (r97).toInt = _) (by decide : (0 : Int32).toInt = 0) c98
                                                                                              refine lv_aload_n hx hb dX8_readOneOf_55 rfl (lv_at hl 4 rfl) ?_
                                                                                              refine lv_iload_n hx hb dX8_readOneOf_56 rfl (lv_at hl 3 rfl) ?_
                                                                                              refine pX_8_5 (v := r3) hx hb ht hown hK hP hD hS m_235 dX8_readOneOf_57 (fun H locs hP hD hS => ?_)
                                                                                              have hP : va_P (dC, dI) classes (WX h g ca (u2 iv 8 5 r3) lv fa la) H := hP
                                                                                              have hD : va_D A (WX h g ca (u2 iv 8 5 r3) lv fa la) := hD
                                                                                              refine lv_iload_n hx hb dX8_readOneOf_60 rfl (lv_at hl 2 rfl) ?_
                                                                                              have i_8_4 : 0 ≤ (iv 8 4).toInt ∧ (iv 8 4).toInt ≤ 5 := hI.1 8 4
                                                                                              have i_8_3 : (-1) ≤ (iv 8 3).toInt ∧ (iv 8 3).toInt ≤ 200 := hI.1 8 3
                                                                                              have hP9 : va_P (dC, dI) classes (WX h g ca (u2 (u2 (u2 iv 8 3 (iv 8 3)) 8 4 (iv 8 4)) 8 5 r3) lv fa la) H := hP
                                                                                              have hD9 : va_D A (WX h g ca (u2 (u2 (u2 iv 8 3 (iv 8 3)) 8 4 (iv 8 4)) 8 5 r3) lv fa la) := hD
                                                                                              exact W.iret (v := 3) hx hb hr (fun t ht9 hW => ⟨⟨3, ((u2 (u2 (u2 iv 8 3 (iv 8 3)) 8 4 (iv 8 4)) 8 5 r3), lv, fa, la), rfl, ⟨(iv 8 3), (iv 8 4), r3, (hI.1 8 3), (hI.1 8 4), (show inb (0, 200) r3 from ⟨by omega, by omega⟩), (show ∃ s e : Int, Sk (fun j => ((fa 8 1) j).toInt) ((iv 8 2) : Int32).toInt (iv 8 5).toInt s ∧ Rn (fun j => ((fa 8 1) j).toInt) ((iv 8 2) : Int32).toInt 97 122 s e ∧ (((3 : Int32).toInt = -1 ∧ kwK (fun j => ((fa 8 1) j).toInt) s e = -1 ∧ ((iv 8 4) : Int32).toInt = 1 ∧ ((iv 8 3) : Int32).toInt = s) ∨ (0 ≤ (3 : Int32).toInt ∧ (3 : Int32).toInt = kwK (fun j => ((fa 8 1) j).toInt) s e ∧ ((iv 8 4) : Int32).toInt = (iv 8 4).toInt ∧ ((iv 8 3) : Int32).toInt = (iv 8 3).toInt ∧ (r3 : Int32).toInt = e)) from (by have g0 := ((cs_0_0 xr20_0).resolve_left (fun q => by omega)).2; have g1 := ((cs_0_4 xr43_0).resolve_left (fun q => by omega)).2; have g2 := ((cs_0_9 xr66_0).resolve_left (fun q => by omega)).2; have g3 := ((cs_0_14 xr97_0).resolve_right (fun q => by omega)).2; exact ⟨_, _, xr1_0, xr3_0, Or.inr ⟨by omega, (by unfold kwK; rw [if_neg g0, if_neg g1, if_neg g2, if_pos g3]; omega), by omega, by omega, by omega⟩⟩)), ⟨by decide, by decide⟩, rfl⟩, by rw [ht9]; exact hP9, hD9⟩, hS.F ht9⟩) hS.2.2 dX8_readOneOf_61
                                                                                      · exact absurd c92 (by decide)
                                                                                  · exact absurd c88 (by decide)
                                                                              · exact absurd c84 (by decide)
                                                                          · exact absurd c80 (by decide)
                                                                      · exact absurd c76 (by decide)
                                                                  · exact absurd c72 (by decide)
                                                              · have fc67 := z_ne (rfl : (r66).toInt = _) (by decide : (0 : Int32).toInt = 0) c67
                                                                refine lv_aload_n hx hb dX8_readOneOf_55 rfl (lv_at hl 4 rfl) ?_
                                                                refine lv_iload_n hx hb dX8_readOneOf_56 rfl (lv_at hl 3 rfl) ?_
                                                                refine pX_8_5 (v := r3) hx hb ht hown hK hP hD hS m_235 dX8_readOneOf_57 (fun H locs hP hD hS => ?_)
                                                                have hP : va_P (dC, dI) classes (WX h g ca (u2 iv 8 5 r3) lv fa la) H := hP
                                                                have hD : va_D A (WX h g ca (u2 iv 8 5 r3) lv fa la) := hD
                                                                refine lv_iload_n hx hb dX8_readOneOf_60 rfl (lv_at hl 2 rfl) ?_
                                                                have : (2 : Int32).toInt = 2 := (by decide)
                                                                have i_8_4 : 0 ≤ (iv 8 4).toInt ∧ (iv 8 4).toInt ≤ 5 := hI.1 8 4
                                                                have i_8_3 : (-1) ≤ (iv 8 3).toInt ∧ (iv 8 3).toInt ≤ 200 := hI.1 8 3
                                                                have hP9 : va_P (dC, dI) classes (WX h g ca (u2 (u2 (u2 iv 8 3 (iv 8 3)) 8 4 (iv 8 4)) 8 5 r3) lv fa la) H := hP
                                                                have hD9 : va_D A (WX h g ca (u2 (u2 (u2 iv 8 3 (iv 8 3)) 8 4 (iv 8 4)) 8 5 r3) lv fa la) := hD
                                                                exact W.iret (v := 2) hx hb hr (fun t ht9 hW => ⟨⟨2, ((u2 (u2 (u2 iv 8 3 (iv 8 3)) 8 4 (iv 8 4)) 8 5 r3), lv, fa, la), rfl, ⟨(iv 8 3), (iv 8 4), r3, (hI.1 8 3), (hI.1 8 4), (show inb (0, 200) r3 from ⟨by omega, by omega⟩), (show ∃ s e : Int, Sk (fun j => ((fa 8 1) j).toInt) ((iv 8 2) : Int32).toInt (iv 8 5).toInt s ∧ Rn (fun j => ((fa 8 1) j).toInt) ((iv 8 2) : Int32).toInt 97 122 s e ∧ (((2 : Int32).toInt = -1 ∧ kwK (fun j => ((fa 8 1) j).toInt) s e = -1 ∧ ((iv 8 4) : Int32).toInt = 1 ∧ ((iv 8 3) : Int32).toInt = s) ∨ (0 ≤ (2 : Int32).toInt ∧ (2 : Int32).toInt = kwK (fun j => ((fa 8 1) j).toInt) s e ∧ ((iv 8 4) : Int32).toInt = (iv 8 4).toInt ∧ ((iv 8 3) : Int32).toInt = (iv 8 3).toInt ∧ (r3 : Int32).toInt = e)) from (by have g0 := ((cs_0_0 xr20_0).resolve_left (fun q => by omega)).2; have g1 := ((cs_0_4 xr43_0).resolve_left (fun q => by omega)).2; have g2 := ((cs_0_9 xr66_0).resolve_right (fun q => by omega)).2; exact ⟨_, _, xr1_0, xr3_0, Or.inr ⟨by omega, (by unfold kwK; rw [if_neg g0, if_neg g1, if_pos g2]; omega), by omega, by omega, by omega⟩⟩)), ⟨by decide, by decide⟩, rfl⟩, by rw [ht9]; exact hP9, hD9⟩, hS.F ht9⟩) hS.2.2 dX8_readOneOf_61
                                                        · exact absurd c61 (by decide)
                                                    · exact absurd c57 (by decide)
                                                · exact absurd c53 (by decide)
                                            · exact absurd c49 (by decide)
                                        · have fc44 := z_ne (rfl : (r43).toInt = _) (by decide : (0 : Int32).toInt = 0) c44
                                          refine lv_aload_n hx hb dX8_readOneOf_55 rfl (lv_at hl 4 rfl) ?_
                                          refine lv_iload_n hx hb dX8_readOneOf_56 rfl (lv_at hl 3 rfl) ?_
                                          refine pX_8_5 (v := r3) hx hb ht hown hK hP hD hS m_235 dX8_readOneOf_57 (fun H locs hP hD hS => ?_)
                                          have hP : va_P (dC, dI) classes (WX h g ca (u2 iv 8 5 r3) lv fa la) H := hP
                                          have hD : va_D A (WX h g ca (u2 iv 8 5 r3) lv fa la) := hD
                                          refine lv_iload_n hx hb dX8_readOneOf_60 rfl (lv_at hl 2 rfl) ?_
                                          have : (1 : Int32).toInt = 1 := (by decide)
                                          have i_8_4 : 0 ≤ (iv 8 4).toInt ∧ (iv 8 4).toInt ≤ 5 := hI.1 8 4
                                          have i_8_3 : (-1) ≤ (iv 8 3).toInt ∧ (iv 8 3).toInt ≤ 200 := hI.1 8 3
                                          have hP9 : va_P (dC, dI) classes (WX h g ca (u2 (u2 (u2 iv 8 3 (iv 8 3)) 8 4 (iv 8 4)) 8 5 r3) lv fa la) H := hP
                                          have hD9 : va_D A (WX h g ca (u2 (u2 (u2 iv 8 3 (iv 8 3)) 8 4 (iv 8 4)) 8 5 r3) lv fa la) := hD
                                          exact W.iret (v := 1) hx hb hr (fun t ht9 hW => ⟨⟨1, ((u2 (u2 (u2 iv 8 3 (iv 8 3)) 8 4 (iv 8 4)) 8 5 r3), lv, fa, la), rfl, ⟨(iv 8 3), (iv 8 4), r3, (hI.1 8 3), (hI.1 8 4), (show inb (0, 200) r3 from ⟨by omega, by omega⟩), (show ∃ s e : Int, Sk (fun j => ((fa 8 1) j).toInt) ((iv 8 2) : Int32).toInt (iv 8 5).toInt s ∧ Rn (fun j => ((fa 8 1) j).toInt) ((iv 8 2) : Int32).toInt 97 122 s e ∧ (((1 : Int32).toInt = -1 ∧ kwK (fun j => ((fa 8 1) j).toInt) s e = -1 ∧ ((iv 8 4) : Int32).toInt = 1 ∧ ((iv 8 3) : Int32).toInt = s) ∨ (0 ≤ (1 : Int32).toInt ∧ (1 : Int32).toInt = kwK (fun j => ((fa 8 1) j).toInt) s e ∧ ((iv 8 4) : Int32).toInt = (iv 8 4).toInt ∧ ((iv 8 3) : Int32).toInt = (iv 8 3).toInt ∧ (r3 : Int32).toInt = e)) from (by have g0 := ((cs_0_0 xr20_0).resolve_left (fun q => by omega)).2; have g1 := ((cs_0_4 xr43_0).resolve_right (fun q => by omega)).2; exact ⟨_, _, xr1_0, xr3_0, Or.inr ⟨by omega, (by unfold kwK; rw [if_neg g0, if_pos g1]; omega), by omega, by omega, by omega⟩⟩)), ⟨by decide, by decide⟩, rfl⟩, by rw [ht9]; exact hP9, hD9⟩, hS.F ht9⟩) hS.2.2 dX8_readOneOf_61
                                  · exact absurd c38 (by decide)
                              · exact absurd c34 (by decide)
                          · exact absurd c30 (by decide)
                      · exact absurd c26 (by decide)
                  · have fc21 := z_ne (rfl : (r20).toInt = _) (by decide : (0 : Int32).toInt = 0) c21
                    refine lv_aload_n hx hb dX8_readOneOf_55 rfl (lv_at hl 4 rfl) ?_
                    refine lv_iload_n hx hb dX8_readOneOf_56 rfl (lv_at hl 3 rfl) ?_
                    refine pX_8_5 (v := r3) hx hb ht hown hK hP hD hS m_235 dX8_readOneOf_57 (fun H locs hP hD hS => ?_)
                    have hP : va_P (dC, dI) classes (WX h g ca (u2 iv 8 5 r3) lv fa la) H := hP
                    have hD : va_D A (WX h g ca (u2 iv 8 5 r3) lv fa la) := hD
                    refine lv_iload_n hx hb dX8_readOneOf_60 rfl (lv_at hl 2 rfl) ?_
                    have i_8_4 : 0 ≤ (iv 8 4).toInt ∧ (iv 8 4).toInt ≤ 5 := hI.1 8 4
                    have i_8_3 : (-1) ≤ (iv 8 3).toInt ∧ (iv 8 3).toInt ≤ 200 := hI.1 8 3
                    have hP9 : va_P (dC, dI) classes (WX h g ca (u2 (u2 (u2 iv 8 3 (iv 8 3)) 8 4 (iv 8 4)) 8 5 r3) lv fa la) H := hP
                    have hD9 : va_D A (WX h g ca (u2 (u2 (u2 iv 8 3 (iv 8 3)) 8 4 (iv 8 4)) 8 5 r3) lv fa la) := hD
                    exact W.iret (v := 0) hx hb hr (fun t ht9 hW => ⟨⟨0, ((u2 (u2 (u2 iv 8 3 (iv 8 3)) 8 4 (iv 8 4)) 8 5 r3), lv, fa, la), rfl, ⟨(iv 8 3), (iv 8 4), r3, (hI.1 8 3), (hI.1 8 4), (show inb (0, 200) r3 from ⟨by omega, by omega⟩), (show ∃ s e : Int, Sk (fun j => ((fa 8 1) j).toInt) ((iv 8 2) : Int32).toInt (iv 8 5).toInt s ∧ Rn (fun j => ((fa 8 1) j).toInt) ((iv 8 2) : Int32).toInt 97 122 s e ∧ (((0 : Int32).toInt = -1 ∧ kwK (fun j => ((fa 8 1) j).toInt) s e = -1 ∧ ((iv 8 4) : Int32).toInt = 1 ∧ ((iv 8 3) : Int32).toInt = s) ∨ (0 ≤ (0 : Int32).toInt ∧ (0 : Int32).toInt = kwK (fun j => ((fa 8 1) j).toInt) s e ∧ ((iv 8 4) : Int32).toInt = (iv 8 4).toInt ∧ ((iv 8 3) : Int32).toInt = (iv 8 3).toInt ∧ (r3 : Int32).toInt = e)) from (by have g0 := ((cs_0_0 xr20_0).resolve_right (fun q => by omega)).2; exact ⟨_, _, xr1_0, xr3_0, Or.inr ⟨by omega, (by unfold kwK; rw [if_pos g0]; omega), by omega, by omega, by omega⟩⟩)), ⟨by decide, by decide⟩, rfl⟩, by rw [ht9]; exact hP9, hD9⟩, hS.F ht9⟩) hS.2.2 dX8_readOneOf_61
            · exact absurd c15 (by decide)
        · exact absurd c11 (by decide)
    · exact absurd c7 (by decide)
set_option maxHeartbeats 4000000 in
set_option maxRecDepth 100000 in
/-- X8_readOneOf -/
theorem c_X8_readOneOf_r1 (l : Launch) (dC : Nat → ClassId) (dI : Nat → Nat → Nat) (sz : Nat) (ak av : Nat → Nat) (h : Nat) (g : Nat → Nat → Nat) (ca : Nat → Nat → ClassId) (iv : Nat → Nat → Int32) (lv : Nat → Nat → Int64) (fa : Nat → Nat → Nat → Int32) (la : Nat → Nat → Nat → Int64) (hI : IX iv fa) : Met l yX8_readOneOf (wc yX8_readOneOf cX8_readOneOf 6 (some .int)) ({ frames := 5, cells := 0, slots := 0, locals := 110 } : Room) (pWZ ak av (dC, dI) classes (WX h g ca iv lv fa la) (TX ca) sz [.ref (g 11 4), .ref (ak 1)]) (va_Qi (fun r (u : SS) => ∃ (ni_8_3 : Int32) (ni_8_4 : Int32) (ni_8_5 : Int32), inb (bI 8 3) ni_8_3 ∧ inb (bI 8 4) ni_8_4 ∧ inb (bI 8 5) ni_8_5 ∧ (∃ s e : Int, Sk (fun j => ((fa 8 1) j).toInt) (iv 8 2).toInt (iv 8 5).toInt s ∧ Rn (fun j => ((fa 8 1) j).toInt) (iv 8 2).toInt 97 122 s e ∧ ((r.toInt = -1 ∧ kwN (fun j => ((fa 8 1) j).toInt) s e = -1 ∧ (ni_8_4).toInt = 1 ∧ (ni_8_3).toInt = s) ∨ (0 ≤ r.toInt ∧ r.toInt = kwN (fun j => ((fa 8 1) j).toInt) s e ∧ (ni_8_4).toInt = (iv 8 4).toInt ∧ (ni_8_3).toInt = (iv 8 3).toInt ∧ (ni_8_5).toInt = e))) ∧ ((-1) ≤ r.toInt ∧ r.toInt ≤ 4) ∧ u = ((u2 (u2 (u2 iv 8 3 ni_8_3) 8 4 ni_8_4) 8 5 ni_8_5), lv, fa, la)) (bX (dC, dI) h g ca (va_A (WX h g ca iv lv fa la) sz)) (va_A (WX h g ca iv lv fa la) sz)) 0 0 (va_A (WX h g ca iv lv fa la) sz) := by
  refine Met.ofW (cc := cX8_readOneOf) (maxL := 6) (ret := (some .int)) (by decide) rfl ?_
  intro p e s m args below meth c s₁ B hml hv
  obtain ⟨rfl, hsz, hP, hK, hD0, hZ⟩ := hv
  have hx := B.exec
  have hb := B.bytes
  have hr := B.returns
  have ht := tb_tl (atoms_spec (ws := wc yX8_readOneOf cX8_readOneOf 6 (some .int)) B.pre)
  have hown : s.vm.findClass RX8 = some m.cls := findClass_of_methodNamed B.named
  have hlocks := B.notSynchronized
  subst hsz
  have hD := hD0.self (sz := s.heap.size)
  generalize hAe : va_A (WX h g ca iv lv fa la) s.heap.size = A at hD hZ ⊢
  have hA : ∀ q : Nat, s.heap.size ≤ q → A q := fun q h => by rw [← hAe]; exact Or.inr h
  have hS : va_S A s.heap s.heap [] := va_S.rf
  have hl := lv_entry [.ref (g 11 4), .ref (ak 1)] (n := 6) (Nat.le_of_ble_eq_true rfl)
  rw [lg_entry_eq]
  generalize (lg_sl [.ref (g 11 4), .ref (ak 1)] ++ List.replicate (6 - (lg_sl [.ref (g 11 4), .ref (ak 1)]).length) Slot.unset).toArray = ls at hl ⊢
  have hl : lv_has ls 6 [(0, .ref (g 11 4)), (1, .ref (ak 1))] := hl
  refine lv_aload_n hx hb dX8_readOneOf_0 rfl (lv_at hl 0 rfl) ?_
  have i_8_5 : 0 ≤ (iv 8 5).toInt ∧ (iv 8 5).toInt ≤ 200 := hI.1 8 5
  have hFc := free_all hD hS hA
  refine va_calli (va_runV (As := []) (rest := []) ⟨hx, hb, hml, hown, ht⟩ (c_X8_skipBlanks_r l dC dI s.heap.size h g ca iv lv fa la hI) (kV 0 ht m_688 m_690 m_16 m_82 m_691 rfl rfl hd_X8_skipBlanks_v ⟨Nat.le_of_ble_eq_true rfl, Nat.le_of_ble_eq_true rfl⟩) (vW hP hK hD (rX_8 hK hP)) rfl rfl hl.1 rfl (lv_room (Nat.le_of_ble_eq_true rfl)) dX8_readOneOf_1 ⟨Nat.le_of_ble_eq_true rfl, Nat.le_of_ble_eq_true rfl⟩) hS (fun q _ h => hFc q h) hFc (fun r1 u t H1 locs ht9 hvm hr1 hB hz1 hk1 hS => ?_)
  obtain ⟨n2, hn2, xr1_0, xr1_1, hr1, rfl⟩ := hr1
  have hn2 : 0 ≤ n2.toInt ∧ n2.toInt ≤ 200 := hn2
  obtain ⟨hP, hD⟩ := hB
  rw [ht9] at hP
  generalize H1 = H at hP hS ⊢
  have hP : va_P (dC, dI) classes (WX h g ca (u2 iv 8 5 n2) lv fa la) H := hP
  have hD : va_D A (WX h g ca (u2 iv 8 5 n2) lv fa la) := (show va_D _ (WX h g ca (u2 iv 8 5 n2) lv fa la) from hD).weaken (fun _ _ _ h => hFc _ h)
  have i_8_2 : 0 ≤ (iv 8 2).toInt ∧ (iv 8 2).toInt ≤ 200 := hI.1 8 2
  have xr1_0 : Sk (fun j => ((fa 8 1) j).toInt) ((iv 8 2) : Int32).toInt ((iv 8 5) : Int32).toInt (n2 : Int32).toInt := xr1_0
  have xr1_1 : (((r1 : Int32).toInt = 1 ∧ (n2 : Int32).toInt < ((iv 8 2) : Int32).toInt) ∨ ((r1 : Int32).toInt = 0 ∧ ((iv 8 2) : Int32).toInt ≤ (n2 : Int32).toInt)) := xr1_1
  refine lv_pop hx hb dX8_readOneOf_4 rfl ?_
  refine lv_aload_n hx hb dX8_readOneOf_5 rfl (lv_at hl 0 rfl) ?_
  refine lv_bipush (v := 97) hx hb dX8_readOneOf_6 (by decide) ?_
  refine lv_bipush (v := 122) hx hb dX8_readOneOf_8 (by decide) ?_
  refine vp_callSi (W.runV (As := [.int 97, .int 122]) (rest := []) ⟨hx, hb, hml, hown, ht⟩ (c_X8_endOfRun_r97 l dC dI h g ca (u2 iv 8 5 n2) lv fa la (IX_i (c := 8) (k := 5) hI (show inb (0, 200) n2 from ⟨by omega, by omega⟩))) (kV 2 ht m_701 m_703 m_19 m_82 m_704 rfl rfl hd_X8_endOfRun_v ⟨Nat.le_of_ble_eq_true rfl, Nat.le_of_ble_eq_true rfl⟩) (vR hP hK (rX_8 hK hP)) rfl rfl hl.1 rfl (lv_room (Nat.le_of_ble_eq_true rfl)) dX8_readOneOf_10 ⟨Nat.le_of_ble_eq_true rfl, Nat.le_of_ble_eq_true rfl⟩) (fun r3 hr3 => ?_)
  obtain ⟨hr3, xr3_0, xr3_1⟩ := hr3
  have xr3_0 : Rn (fun j => ((fa 8 1) j).toInt) ((iv 8 2) : Int32).toInt 97 122 (n2 : Int32).toInt (r3 : Int32).toInt := xr3_0
  have xr3_1 : (n2 : Int32).toInt ≤ (r3 : Int32).toInt := xr3_1
  refine lv_istore_n (lv' := [(2, .int r3), (0, .ref (g 11 4)), (1, .ref (ak 1))]) hx hb dX8_readOneOf_13 rfl hl (by decide) rfl (fun ls hl => ?_)
  refine lv_iconst (v := 0) hx hb dX8_readOneOf_14 (by decide) ?_
  refine lv_istore_n (lv' := [(3, .int 0), (2, .int r3), (0, .ref (g 11 4)), (1, .ref (ak 1))]) hx hb dX8_readOneOf_15 rfl hl (by decide) rfl (fun ls hl => ?_)
  refine lv_iconst (v := 0) hx hb dX8_readOneOf_16 (by decide) ?_
  refine lv_istore (lv' := [(4, .int 0), (3, .int 0), (2, .int r3), (0, .ref (g 11 4)), (1, .ref (ak 1))]) hx hb dX8_readOneOf_17 hl (by decide) rfl (fun ls hl => ?_)
  refine lv_iconst (v := 0) hx hb dX8_readOneOf_19 (by decide) ?_
  refine lv_istore (lv' := [(5, .int 0), (4, .int 0), (3, .int 0), (2, .int r3), (0, .ref (g 11 4)), (1, .ref (ak 1))]) hx hb dX8_readOneOf_20 hl (by decide) rfl (fun ls hl => ?_)
  refine lv_iload hx hb dX8_readOneOf_22 (lv_at hl 0 rfl) ?_
  refine lv_aload_n hx hb dX8_readOneOf_24 rfl (lv_at hl 5 rfl) ?_
  refine vp_callSi (W.runV (As := []) (rest := [.int 0]) ⟨hx, hb, hml, hown, ht⟩ (c_J0_length_8abf5_1 l dC dI ak av) (kV 0 ht m_705 m_706 m_707 m_91 m_708 rfl rfl hd_J0_length_8abf5_v ⟨Nat.le_of_ble_eq_true rfl, Nat.le_of_ble_eq_true rfl⟩) (vRZ noP (hK.sub (tys' := []) [] rfl) ((hZ.kept hS.2.1).narrow (fun _ h => h.elim)) (vk_recv hZ.1.2.2.2.2.2 (i := 1) (by decide) hS)) rfl rfl hl.1 rfl (lv_room (Nat.le_of_ble_eq_true rfl)) dX8_readOneOf_25 ⟨Nat.le_of_ble_eq_true rfl, Nat.le_of_ble_eq_true rfl⟩) (fun r4 hr4 => ?_)
  obtain rfl : 28 = r4 := hr4.symm
  refine lv_icmp_ge (tgt := 77) hx hb dX8_readOneOf_28 (by decide) (fun c5 => ?_) (fun c5 => ?_)
  · exact absurd c5 (by decide)
  · skip
    refine lv_aload_n hx hb dX8_readOneOf_31 rfl (lv_at hl 5 rfl) ?_
    refine lv_iload hx hb dX8_readOneOf_32 (lv_at hl 0 rfl) ?_
    refine vp_callSi (W.runV (As := [.int 0]) (rest := []) ⟨hx, hb, hml, hown, ht⟩ (c_J0_charAt_5068e_1 l dC dI ak av 0 ⟨by decide, by decide⟩) (kV 1 ht m_715 m_716 m_717 m_91 m_718 rfl rfl hd_J0_charAt_5068e_v ⟨Nat.le_of_ble_eq_true rfl, Nat.le_of_ble_eq_true rfl⟩) (vRZ noP (hK.sub (tys' := []) [] rfl) ((hZ.kept hS.2.1).narrow (fun _ h => h.elim)) (vk_recv hZ.1.2.2.2.2.2 (i := 1) (by decide) hS)) rfl rfl hl.1 rfl (lv_room (Nat.le_of_ble_eq_true rfl)) dX8_readOneOf_34 ⟨Nat.le_of_ble_eq_true rfl, Nat.le_of_ble_eq_true rfl⟩) (fun r6 hr6 => ?_)
    obtain rfl : 119 = r6 := (hr6.trans (by decide)).symm
    refine lv_bipush (v := 32) hx hb dX8_readOneOf_37 (by decide) ?_
    refine lv_icmp_ne (tgt := 71) hx hb dX8_readOneOf_39 (by decide) (fun c7 => ?_) (fun c7 => ?_)
    · skip
      refine lv_iinc (v := 1) (lv' := [(5, .int 1), (4, .int 0), (3, .int 0), (2, .int r3), (0, .ref (g 11 4)), (1, .ref (ak 1))]) hx hb dX8_readOneOf_71 hl (k := 0) rfl (by decide) (by decide) rfl (fun ls hl => ?_)
      refine lv_goto (tgt := 22) hx hb dX8_readOneOf_74 (by decide) ?_
      refine lv_iload hx hb dX8_readOneOf_22 (lv_at hl 0 rfl) ?_
      refine lv_aload_n hx hb dX8_readOneOf_24 rfl (lv_at hl 5 rfl) ?_
      refine vp_callSi (W.runV (As := []) (rest := [.int 1]) ⟨hx, hb, hml, hown, ht⟩ (c_J0_length_8abf5_1 l dC dI ak av) (kV 0 ht m_705 m_706 m_707 m_91 m_708 rfl rfl hd_J0_length_8abf5_v ⟨Nat.le_of_ble_eq_true rfl, Nat.le_of_ble_eq_true rfl⟩) (vRZ noP (hK.sub (tys' := []) [] rfl) ((hZ.kept hS.2.1).narrow (fun _ h => h.elim)) (vk_recv hZ.1.2.2.2.2.2 (i := 1) (by decide) hS)) rfl rfl hl.1 rfl (lv_room (Nat.le_of_ble_eq_true rfl)) dX8_readOneOf_25 ⟨Nat.le_of_ble_eq_true rfl, Nat.le_of_ble_eq_true rfl⟩) (fun r8 hr8 => ?_)
      obtain rfl : 28 = r8 := hr8.symm
      refine lv_icmp_ge (tgt := 77) hx hb dX8_readOneOf_28 (by decide) (fun c9 => ?_) (fun c9 => ?_)
      · exact absurd c9 (by decide)
      · skip
        refine lv_aload_n hx hb dX8_readOneOf_31 rfl (lv_at hl 5 rfl) ?_
        refine lv_iload hx hb dX8_readOneOf_32 (lv_at hl 0 rfl) ?_
        refine vp_callSi (W.runV (As := [.int 1]) (rest := []) ⟨hx, hb, hml, hown, ht⟩ (c_J0_charAt_5068e_1 l dC dI ak av 1 ⟨by decide, by decide⟩) (kV 1 ht m_715 m_716 m_717 m_91 m_718 rfl rfl hd_J0_charAt_5068e_v ⟨Nat.le_of_ble_eq_true rfl, Nat.le_of_ble_eq_true rfl⟩) (vRZ noP (hK.sub (tys' := []) [] rfl) ((hZ.kept hS.2.1).narrow (fun _ h => h.elim)) (vk_recv hZ.1.2.2.2.2.2 (i := 1) (by decide) hS)) rfl rfl hl.1 rfl (lv_room (Nat.le_of_ble_eq_true rfl)) dX8_readOneOf_34 ⟨Nat.le_of_ble_eq_true rfl, Nat.le_of_ble_eq_true rfl⟩) (fun r10 hr10 => ?_)
        obtain rfl : 97 = r10 := (hr10.trans (by decide)).symm
        refine lv_bipush (v := 32) hx hb dX8_readOneOf_37 (by decide) ?_
        refine lv_icmp_ne (tgt := 71) hx hb dX8_readOneOf_39 (by decide) (fun c11 => ?_) (fun c11 => ?_)
        · skip
          refine lv_iinc (v := 2) (lv' := [(5, .int 2), (4, .int 0), (3, .int 0), (2, .int r3), (0, .ref (g 11 4)), (1, .ref (ak 1))]) hx hb dX8_readOneOf_71 hl (k := 0) rfl (by decide) (by decide) rfl (fun ls hl => ?_)
          refine lv_goto (tgt := 22) hx hb dX8_readOneOf_74 (by decide) ?_
          refine lv_iload hx hb dX8_readOneOf_22 (lv_at hl 0 rfl) ?_
          refine lv_aload_n hx hb dX8_readOneOf_24 rfl (lv_at hl 5 rfl) ?_
          refine vp_callSi (W.runV (As := []) (rest := [.int 2]) ⟨hx, hb, hml, hown, ht⟩ (c_J0_length_8abf5_1 l dC dI ak av) (kV 0 ht m_705 m_706 m_707 m_91 m_708 rfl rfl hd_J0_length_8abf5_v ⟨Nat.le_of_ble_eq_true rfl, Nat.le_of_ble_eq_true rfl⟩) (vRZ noP (hK.sub (tys' := []) [] rfl) ((hZ.kept hS.2.1).narrow (fun _ h => h.elim)) (vk_recv hZ.1.2.2.2.2.2 (i := 1) (by decide) hS)) rfl rfl hl.1 rfl (lv_room (Nat.le_of_ble_eq_true rfl)) dX8_readOneOf_25 ⟨Nat.le_of_ble_eq_true rfl, Nat.le_of_ble_eq_true rfl⟩) (fun r12 hr12 => ?_)
          obtain rfl : 28 = r12 := hr12.symm
          refine lv_icmp_ge (tgt := 77) hx hb dX8_readOneOf_28 (by decide) (fun c13 => ?_) (fun c13 => ?_)
          · exact absurd c13 (by decide)
          · skip
            refine lv_aload_n hx hb dX8_readOneOf_31 rfl (lv_at hl 5 rfl) ?_
            refine lv_iload hx hb dX8_readOneOf_32 (lv_at hl 0 rfl) ?_
            refine vp_callSi (W.runV (As := [.int 2]) (rest := []) ⟨hx, hb, hml, hown, ht⟩ (c_J0_charAt_5068e_1 l dC dI ak av 2 ⟨by decide, by decide⟩) (kV 1 ht m_715 m_716 m_717 m_91 m_718 rfl rfl hd_J0_charAt_5068e_v ⟨Nat.le_of_ble_eq_true rfl, Nat.le_of_ble_eq_true rfl⟩) (vRZ noP (hK.sub (tys' := []) [] rfl) ((hZ.kept hS.2.1).narrow (fun _ h => h.elim)) (vk_recv hZ.1.2.2.2.2.2 (i := 1) (by decide) hS)) rfl rfl hl.1 rfl (lv_room (Nat.le_of_ble_eq_true rfl)) dX8_readOneOf_34 ⟨Nat.le_of_ble_eq_true rfl, Nat.le_of_ble_eq_true rfl⟩) (fun r14 hr14 => ?_)
            obtain rfl : 116 = r14 := (hr14.trans (by decide)).symm
            refine lv_bipush (v := 32) hx hb dX8_readOneOf_37 (by decide) ?_
            refine lv_icmp_ne (tgt := 71) hx hb dX8_readOneOf_39 (by decide) (fun c15 => ?_) (fun c15 => ?_)
            · skip
              refine lv_iinc (v := 3) (lv' := [(5, .int 3), (4, .int 0), (3, .int 0), (2, .int r3), (0, .ref (g 11 4)), (1, .ref (ak 1))]) hx hb dX8_readOneOf_71 hl (k := 0) rfl (by decide) (by decide) rfl (fun ls hl => ?_)
              refine lv_goto (tgt := 22) hx hb dX8_readOneOf_74 (by decide) ?_
              refine lv_iload hx hb dX8_readOneOf_22 (lv_at hl 0 rfl) ?_
              refine lv_aload_n hx hb dX8_readOneOf_24 rfl (lv_at hl 5 rfl) ?_
              refine vp_callSi (W.runV (As := []) (rest := [.int 3]) ⟨hx, hb, hml, hown, ht⟩ (c_J0_length_8abf5_1 l dC dI ak av) (kV 0 ht m_705 m_706 m_707 m_91 m_708 rfl rfl hd_J0_length_8abf5_v ⟨Nat.le_of_ble_eq_true rfl, Nat.le_of_ble_eq_true rfl⟩) (vRZ noP (hK.sub (tys' := []) [] rfl) ((hZ.kept hS.2.1).narrow (fun _ h => h.elim)) (vk_recv hZ.1.2.2.2.2.2 (i := 1) (by decide) hS)) rfl rfl hl.1 rfl (lv_room (Nat.le_of_ble_eq_true rfl)) dX8_readOneOf_25 ⟨Nat.le_of_ble_eq_true rfl, Nat.le_of_ble_eq_true rfl⟩) (fun r16 hr16 => ?_)
              obtain rfl : 28 = r16 := hr16.symm
              refine lv_icmp_ge (tgt := 77) hx hb dX8_readOneOf_28 (by decide) (fun c17 => ?_) (fun c17 => ?_)
              · exact absurd c17 (by decide)
              · skip
                refine lv_aload_n hx hb dX8_readOneOf_31 rfl (lv_at hl 5 rfl) ?_
                refine lv_iload hx hb dX8_readOneOf_32 (lv_at hl 0 rfl) ?_
                refine vp_callSi (W.runV (As := [.int 3]) (rest := []) ⟨hx, hb, hml, hown, ht⟩ (c_J0_charAt_5068e_1 l dC dI ak av 3 ⟨by decide, by decide⟩) (kV 1 ht m_715 m_716 m_717 m_91 m_718 rfl rfl hd_J0_charAt_5068e_v ⟨Nat.le_of_ble_eq_true rfl, Nat.le_of_ble_eq_true rfl⟩) (vRZ noP (hK.sub (tys' := []) [] rfl) ((hZ.kept hS.2.1).narrow (fun _ h => h.elim)) (vk_recv hZ.1.2.2.2.2.2 (i := 1) (by decide) hS)) rfl rfl hl.1 rfl (lv_room (Nat.le_of_ble_eq_true rfl)) dX8_readOneOf_34 ⟨Nat.le_of_ble_eq_true rfl, Nat.le_of_ble_eq_true rfl⟩) (fun r18 hr18 => ?_)
                obtain rfl : 101 = r18 := (hr18.trans (by decide)).symm
                refine lv_bipush (v := 32) hx hb dX8_readOneOf_37 (by decide) ?_
                refine lv_icmp_ne (tgt := 71) hx hb dX8_readOneOf_39 (by decide) (fun c19 => ?_) (fun c19 => ?_)
                · skip
                  refine lv_iinc (v := 4) (lv' := [(5, .int 4), (4, .int 0), (3, .int 0), (2, .int r3), (0, .ref (g 11 4)), (1, .ref (ak 1))]) hx hb dX8_readOneOf_71 hl (k := 0) rfl (by decide) (by decide) rfl (fun ls hl => ?_)
                  refine lv_goto (tgt := 22) hx hb dX8_readOneOf_74 (by decide) ?_
                  refine lv_iload hx hb dX8_readOneOf_22 (lv_at hl 0 rfl) ?_
                  refine lv_aload_n hx hb dX8_readOneOf_24 rfl (lv_at hl 5 rfl) ?_
                  refine vp_callSi (W.runV (As := []) (rest := [.int 4]) ⟨hx, hb, hml, hown, ht⟩ (c_J0_length_8abf5_1 l dC dI ak av) (kV 0 ht m_705 m_706 m_707 m_91 m_708 rfl rfl hd_J0_length_8abf5_v ⟨Nat.le_of_ble_eq_true rfl, Nat.le_of_ble_eq_true rfl⟩) (vRZ noP (hK.sub (tys' := []) [] rfl) ((hZ.kept hS.2.1).narrow (fun _ h => h.elim)) (vk_recv hZ.1.2.2.2.2.2 (i := 1) (by decide) hS)) rfl rfl hl.1 rfl (lv_room (Nat.le_of_ble_eq_true rfl)) dX8_readOneOf_25 ⟨Nat.le_of_ble_eq_true rfl, Nat.le_of_ble_eq_true rfl⟩) (fun r20 hr20 => ?_)
                  obtain rfl : 28 = r20 := hr20.symm
                  refine lv_icmp_ge (tgt := 77) hx hb dX8_readOneOf_28 (by decide) (fun c21 => ?_) (fun c21 => ?_)
                  · exact absurd c21 (by decide)
                  · skip
                    refine lv_aload_n hx hb dX8_readOneOf_31 rfl (lv_at hl 5 rfl) ?_
                    refine lv_iload hx hb dX8_readOneOf_32 (lv_at hl 0 rfl) ?_
                    refine vp_callSi (W.runV (As := [.int 4]) (rest := []) ⟨hx, hb, hml, hown, ht⟩ (c_J0_charAt_5068e_1 l dC dI ak av 4 ⟨by decide, by decide⟩) (kV 1 ht m_715 m_716 m_717 m_91 m_718 rfl rfl hd_J0_charAt_5068e_v ⟨Nat.le_of_ble_eq_true rfl, Nat.le_of_ble_eq_true rfl⟩) (vRZ noP (hK.sub (tys' := []) [] rfl) ((hZ.kept hS.2.1).narrow (fun _ h => h.elim)) (vk_recv hZ.1.2.2.2.2.2 (i := 1) (by decide) hS)) rfl rfl hl.1 rfl (lv_room (Nat.le_of_ble_eq_true rfl)) dX8_readOneOf_34 ⟨Nat.le_of_ble_eq_true rfl, Nat.le_of_ble_eq_true rfl⟩) (fun r22 hr22 => ?_)
                    obtain rfl : 114 = r22 := (hr22.trans (by decide)).symm
                    refine lv_bipush (v := 32) hx hb dX8_readOneOf_37 (by decide) ?_
                    refine lv_icmp_ne (tgt := 71) hx hb dX8_readOneOf_39 (by decide) (fun c23 => ?_) (fun c23 => ?_)
                    · skip
                      refine lv_iinc (v := 5) (lv' := [(5, .int 5), (4, .int 0), (3, .int 0), (2, .int r3), (0, .ref (g 11 4)), (1, .ref (ak 1))]) hx hb dX8_readOneOf_71 hl (k := 0) rfl (by decide) (by decide) rfl (fun ls hl => ?_)
                      refine lv_goto (tgt := 22) hx hb dX8_readOneOf_74 (by decide) ?_
                      refine lv_iload hx hb dX8_readOneOf_22 (lv_at hl 0 rfl) ?_
                      refine lv_aload_n hx hb dX8_readOneOf_24 rfl (lv_at hl 5 rfl) ?_
                      refine vp_callSi (W.runV (As := []) (rest := [.int 5]) ⟨hx, hb, hml, hown, ht⟩ (c_J0_length_8abf5_1 l dC dI ak av) (kV 0 ht m_705 m_706 m_707 m_91 m_708 rfl rfl hd_J0_length_8abf5_v ⟨Nat.le_of_ble_eq_true rfl, Nat.le_of_ble_eq_true rfl⟩) (vRZ noP (hK.sub (tys' := []) [] rfl) ((hZ.kept hS.2.1).narrow (fun _ h => h.elim)) (vk_recv hZ.1.2.2.2.2.2 (i := 1) (by decide) hS)) rfl rfl hl.1 rfl (lv_room (Nat.le_of_ble_eq_true rfl)) dX8_readOneOf_25 ⟨Nat.le_of_ble_eq_true rfl, Nat.le_of_ble_eq_true rfl⟩) (fun r24 hr24 => ?_)
                      obtain rfl : 28 = r24 := hr24.symm
                      refine lv_icmp_ge (tgt := 77) hx hb dX8_readOneOf_28 (by decide) (fun c25 => ?_) (fun c25 => ?_)
                      · exact absurd c25 (by decide)
                      · skip
                        refine lv_aload_n hx hb dX8_readOneOf_31 rfl (lv_at hl 5 rfl) ?_
                        refine lv_iload hx hb dX8_readOneOf_32 (lv_at hl 0 rfl) ?_
                        refine vp_callSi (W.runV (As := [.int 5]) (rest := []) ⟨hx, hb, hml, hown, ht⟩ (c_J0_charAt_5068e_1 l dC dI ak av 5 ⟨by decide, by decide⟩) (kV 1 ht m_715 m_716 m_717 m_91 m_718 rfl rfl hd_J0_charAt_5068e_v ⟨Nat.le_of_ble_eq_true rfl, Nat.le_of_ble_eq_true rfl⟩) (vRZ noP (hK.sub (tys' := []) [] rfl) ((hZ.kept hS.2.1).narrow (fun _ h => h.elim)) (vk_recv hZ.1.2.2.2.2.2 (i := 1) (by decide) hS)) rfl rfl hl.1 rfl (lv_room (Nat.le_of_ble_eq_true rfl)) dX8_readOneOf_34 ⟨Nat.le_of_ble_eq_true rfl, Nat.le_of_ble_eq_true rfl⟩) (fun r26 hr26 => ?_)
                        obtain rfl : 32 = r26 := (hr26.trans (by decide)).symm
                        refine lv_bipush (v := 32) hx hb dX8_readOneOf_37 (by decide) ?_
                        refine lv_icmp_ne (tgt := 71) hx hb dX8_readOneOf_39 (by decide) (fun c27 => ?_) (fun c27 => ?_)
                        · exact absurd rfl c27
                        · skip
                          refine lv_aload_n hx hb dX8_readOneOf_42 rfl (lv_at hl 4 rfl) ?_
                          refine lv_aload_n hx hb dX8_readOneOf_43 rfl (lv_at hl 5 rfl) ?_
                          refine lv_iload hx hb dX8_readOneOf_44 (lv_at hl 1 rfl) ?_
                          refine lv_iload hx hb dX8_readOneOf_46 (lv_at hl 0 rfl) ?_
                          refine lv_iload_n hx hb dX8_readOneOf_48 rfl (lv_at hl 3 rfl) ?_
                          refine vp_callSi (W.runV (As := [.ref (ak 1), .int 0, .int 5, .int r3]) (rest := []) ⟨hx, hb, hml, hown, ht⟩ (c_X8_isSame_g1 l dC dI ak av h g ca (u2 iv 8 5 n2) lv fa la (IX_i (c := 8) (k := 5) hI (show inb (0, 200) n2 from ⟨by omega, by omega⟩)) 0 5 r3 ⟨by decide, by decide⟩ ⟨by decide, by decide⟩ ⟨by omega, by omega⟩) (kV 4 ht m_753 m_755 m_20 m_82 m_756 rfl rfl hd_X8_isSame_v ⟨Nat.le_of_ble_eq_true rfl, Nat.le_of_ble_eq_true rfl⟩) (vRZ hP hK ((hZ.kept hS.2.1).narrow (fun _ h => h.elim)) (rX_8 hK hP)) rfl rfl hl.1 rfl (lv_room (Nat.le_of_ble_eq_true rfl)) dX8_readOneOf_49 ⟨Nat.le_of_ble_eq_true rfl, Nat.le_of_ble_eq_true rfl⟩) (fun r28 hr28 => ?_)
                          obtain ⟨hr28, xr28_0⟩ := hr28
                          have : (5 : Int32).toInt = 5 := (by decide)
                          have : (0 : Int32).toInt = 0 := (by decide)
                          have xr28_0 : (((r28 : Int32).toInt = 1 ∧ WdG (fun j => ((fa 8 1) j).toInt) (n2 : Int32).toInt (r3 : Int32).toInt ((5 : Int32).toInt - (0 : Int32).toInt) (LsW 1 (0 : Int32).toInt)) ∨ ((r28 : Int32).toInt = 0 ∧ ¬ WdG (fun j => ((fa 8 1) j).toInt) (n2 : Int32).toInt (r3 : Int32).toInt ((5 : Int32).toInt - (0 : Int32).toInt) (LsW 1 (0 : Int32).toInt))) := xr28_0
                          refine lv_if_eq (tgt := 62) hx hb dX8_readOneOf_52 (by decide) (fun c29 => ?_) (fun c29 => ?_)
                          · have fc29 := z_eq (rfl : (r28).toInt = _) (by decide : (0 : Int32).toInt = 0) c29
                            refine lv_iinc (v := 1) (lv' := [(3, .int 1), (5, .int 5), (4, .int 0), (2, .int r3), (0, .ref (g 11 4)), (1, .ref (ak 1))]) hx hb dX8_readOneOf_62 hl (k := 2) rfl (by decide) (by decide) rfl (fun ls hl => ?_)
                            refine lv_iload hx hb dX8_readOneOf_65 (lv_at hl 1 rfl) ?_
                            refine lv_iconst (v := 1) hx hb dX8_readOneOf_67 (by decide) ?_
                            refine lv_iadd hx hb dX8_readOneOf_68 ?_
                            refine lv_topi (fun v30 ev30 => ?_)
                            obtain rfl : 6 = v30 := (ev30.trans (by decide)).symm
                            refine lv_istore (lv' := [(4, .int 6), (3, .int 1), (5, .int 5), (2, .int r3), (0, .ref (g 11 4)), (1, .ref (ak 1))]) hx hb dX8_readOneOf_69 hl (by decide) rfl (fun ls hl => ?_)
                            refine lv_iinc (v := 6) (lv' := [(5, .int 6), (4, .int 6), (3, .int 1), (2, .int r3), (0, .ref (g 11 4)), (1, .ref (ak 1))]) hx hb dX8_readOneOf_71 hl (k := 2) rfl (by decide) (by decide) rfl (fun ls hl => ?_)
                            refine lv_goto (tgt := 22) hx hb dX8_readOneOf_74 (by decide) ?_
                            refine lv_iload hx hb dX8_readOneOf_22 (lv_at hl 0 rfl) ?_
                            refine lv_aload_n hx hb dX8_readOneOf_24 rfl (lv_at hl 5 rfl) ?_
                            refine vp_callSi (W.runV (As := []) (rest := [.int 6]) ⟨hx, hb, hml, hown, ht⟩ (c_J0_length_8abf5_1 l dC dI ak av) (kV 0 ht m_705 m_706 m_707 m_91 m_708 rfl rfl hd_J0_length_8abf5_v ⟨Nat.le_of_ble_eq_true rfl, Nat.le_of_ble_eq_true rfl⟩) (vRZ noP (hK.sub (tys' := []) [] rfl) ((hZ.kept hS.2.1).narrow (fun _ h => h.elim)) (vk_recv hZ.1.2.2.2.2.2 (i := 1) (by decide) hS)) rfl rfl hl.1 rfl (lv_room (Nat.le_of_ble_eq_true rfl)) dX8_readOneOf_25 ⟨Nat.le_of_ble_eq_true rfl, Nat.le_of_ble_eq_true rfl⟩) (fun r31 hr31 => ?_)
                            obtain rfl : 28 = r31 := hr31.symm
                            refine lv_icmp_ge (tgt := 77) hx hb dX8_readOneOf_28 (by decide) (fun c32 => ?_) (fun c32 => ?_)
                            · exact absurd c32 (by decide)
                            · skip
                              refine lv_aload_n hx hb dX8_readOneOf_31 rfl (lv_at hl 5 rfl) ?_
                              refine lv_iload hx hb dX8_readOneOf_32 (lv_at hl 0 rfl) ?_
                              refine vp_callSi (W.runV (As := [.int 6]) (rest := []) ⟨hx, hb, hml, hown, ht⟩ (c_J0_charAt_5068e_1 l dC dI ak av 6 ⟨by decide, by decide⟩) (kV 1 ht m_715 m_716 m_717 m_91 m_718 rfl rfl hd_J0_charAt_5068e_v ⟨Nat.le_of_ble_eq_true rfl, Nat.le_of_ble_eq_true rfl⟩) (vRZ noP (hK.sub (tys' := []) [] rfl) ((hZ.kept hS.2.1).narrow (fun _ h => h.elim)) (vk_recv hZ.1.2.2.2.2.2 (i := 1) (by decide) hS)) rfl rfl hl.1 rfl (lv_room (Nat.le_of_ble_eq_true rfl)) dX8_readOneOf_34 ⟨Nat.le_of_ble_eq_true rfl, Nat.le_of_ble_eq_true rfl⟩) (fun r33 hr33 => ?_)
                              obtain rfl : 115 = r33 := (hr33.trans (by decide)).symm
                              refine lv_bipush (v := 32) hx hb dX8_readOneOf_37 (by decide) ?_
                              refine lv_icmp_ne (tgt := 71) hx hb dX8_readOneOf_39 (by decide) (fun c34 => ?_) (fun c34 => ?_)
                              · skip
                                refine lv_iinc (v := 7) (lv' := [(5, .int 7), (4, .int 6), (3, .int 1), (2, .int r3), (0, .ref (g 11 4)), (1, .ref (ak 1))]) hx hb dX8_readOneOf_71 hl (k := 0) rfl (by decide) (by decide) rfl (fun ls hl => ?_)
                                refine lv_goto (tgt := 22) hx hb dX8_readOneOf_74 (by decide) ?_
                                refine lv_iload hx hb dX8_readOneOf_22 (lv_at hl 0 rfl) ?_
                                refine lv_aload_n hx hb dX8_readOneOf_24 rfl (lv_at hl 5 rfl) ?_
                                refine vp_callSi (W.runV (As := []) (rest := [.int 7]) ⟨hx, hb, hml, hown, ht⟩ (c_J0_length_8abf5_1 l dC dI ak av) (kV 0 ht m_705 m_706 m_707 m_91 m_708 rfl rfl hd_J0_length_8abf5_v ⟨Nat.le_of_ble_eq_true rfl, Nat.le_of_ble_eq_true rfl⟩) (vRZ noP (hK.sub (tys' := []) [] rfl) ((hZ.kept hS.2.1).narrow (fun _ h => h.elim)) (vk_recv hZ.1.2.2.2.2.2 (i := 1) (by decide) hS)) rfl rfl hl.1 rfl (lv_room (Nat.le_of_ble_eq_true rfl)) dX8_readOneOf_25 ⟨Nat.le_of_ble_eq_true rfl, Nat.le_of_ble_eq_true rfl⟩) (fun r35 hr35 => ?_)
                                obtain rfl : 28 = r35 := hr35.symm
                                refine lv_icmp_ge (tgt := 77) hx hb dX8_readOneOf_28 (by decide) (fun c36 => ?_) (fun c36 => ?_)
                                · exact absurd c36 (by decide)
                                · skip
                                  refine lv_aload_n hx hb dX8_readOneOf_31 rfl (lv_at hl 5 rfl) ?_
                                  refine lv_iload hx hb dX8_readOneOf_32 (lv_at hl 0 rfl) ?_
                                  refine vp_callSi (W.runV (As := [.int 7]) (rest := []) ⟨hx, hb, hml, hown, ht⟩ (c_J0_charAt_5068e_1 l dC dI ak av 7 ⟨by decide, by decide⟩) (kV 1 ht m_715 m_716 m_717 m_91 m_718 rfl rfl hd_J0_charAt_5068e_v ⟨Nat.le_of_ble_eq_true rfl, Nat.le_of_ble_eq_true rfl⟩) (vRZ noP (hK.sub (tys' := []) [] rfl) ((hZ.kept hS.2.1).narrow (fun _ h => h.elim)) (vk_recv hZ.1.2.2.2.2.2 (i := 1) (by decide) hS)) rfl rfl hl.1 rfl (lv_room (Nat.le_of_ble_eq_true rfl)) dX8_readOneOf_34 ⟨Nat.le_of_ble_eq_true rfl, Nat.le_of_ble_eq_true rfl⟩) (fun r37 hr37 => ?_)
                                  obtain rfl : 107 = r37 := (hr37.trans (by decide)).symm
                                  refine lv_bipush (v := 32) hx hb dX8_readOneOf_37 (by decide) ?_
                                  refine lv_icmp_ne (tgt := 71) hx hb dX8_readOneOf_39 (by decide) (fun c38 => ?_) (fun c38 => ?_)
                                  · skip
                                    refine lv_iinc (v := 8) (lv' := [(5, .int 8), (4, .int 6), (3, .int 1), (2, .int r3), (0, .ref (g 11 4)), (1, .ref (ak 1))]) hx hb dX8_readOneOf_71 hl (k := 0) rfl (by decide) (by decide) rfl (fun ls hl => ?_)
                                    refine lv_goto (tgt := 22) hx hb dX8_readOneOf_74 (by decide) ?_
                                    refine lv_iload hx hb dX8_readOneOf_22 (lv_at hl 0 rfl) ?_
                                    refine lv_aload_n hx hb dX8_readOneOf_24 rfl (lv_at hl 5 rfl) ?_
                                    refine vp_callSi (W.runV (As := []) (rest := [.int 8]) ⟨hx, hb, hml, hown, ht⟩ (c_J0_length_8abf5_1 l dC dI ak av) (kV 0 ht m_705 m_706 m_707 m_91 m_708 rfl rfl hd_J0_length_8abf5_v ⟨Nat.le_of_ble_eq_true rfl, Nat.le_of_ble_eq_true rfl⟩) (vRZ noP (hK.sub (tys' := []) [] rfl) ((hZ.kept hS.2.1).narrow (fun _ h => h.elim)) (vk_recv hZ.1.2.2.2.2.2 (i := 1) (by decide) hS)) rfl rfl hl.1 rfl (lv_room (Nat.le_of_ble_eq_true rfl)) dX8_readOneOf_25 ⟨Nat.le_of_ble_eq_true rfl, Nat.le_of_ble_eq_true rfl⟩) (fun r39 hr39 => ?_)
                                    obtain rfl : 28 = r39 := hr39.symm
                                    refine lv_icmp_ge (tgt := 77) hx hb dX8_readOneOf_28 (by decide) (fun c40 => ?_) (fun c40 => ?_)
                                    · exact absurd c40 (by decide)
                                    · skip
                                      refine lv_aload_n hx hb dX8_readOneOf_31 rfl (lv_at hl 5 rfl) ?_
                                      refine lv_iload hx hb dX8_readOneOf_32 (lv_at hl 0 rfl) ?_
                                      refine vp_callSi (W.runV (As := [.int 8]) (rest := []) ⟨hx, hb, hml, hown, ht⟩ (c_J0_charAt_5068e_1 l dC dI ak av 8 ⟨by decide, by decide⟩) (kV 1 ht m_715 m_716 m_717 m_91 m_718 rfl rfl hd_J0_charAt_5068e_v ⟨Nat.le_of_ble_eq_true rfl, Nat.le_of_ble_eq_true rfl⟩) (vRZ noP (hK.sub (tys' := []) [] rfl) ((hZ.kept hS.2.1).narrow (fun _ h => h.elim)) (vk_recv hZ.1.2.2.2.2.2 (i := 1) (by decide) hS)) rfl rfl hl.1 rfl (lv_room (Nat.le_of_ble_eq_true rfl)) dX8_readOneOf_34 ⟨Nat.le_of_ble_eq_true rfl, Nat.le_of_ble_eq_true rfl⟩) (fun r41 hr41 => ?_)
                                      obtain rfl : 101 = r41 := (hr41.trans (by decide)).symm
                                      refine lv_bipush (v := 32) hx hb dX8_readOneOf_37 (by decide) ?_
                                      refine lv_icmp_ne (tgt := 71) hx hb dX8_readOneOf_39 (by decide) (fun c42 => ?_) (fun c42 => ?_)
                                      · skip
                                        refine lv_iinc (v := 9) (lv' := [(5, .int 9), (4, .int 6), (3, .int 1), (2, .int r3), (0, .ref (g 11 4)), (1, .ref (ak 1))]) hx hb dX8_readOneOf_71 hl (k := 0) rfl (by decide) (by decide) rfl (fun ls hl => ?_)
                                        refine lv_goto (tgt := 22) hx hb dX8_readOneOf_74 (by decide) ?_
                                        refine lv_iload hx hb dX8_readOneOf_22 (lv_at hl 0 rfl) ?_
                                        refine lv_aload_n hx hb dX8_readOneOf_24 rfl (lv_at hl 5 rfl) ?_
                                        refine vp_callSi (W.runV (As := []) (rest := [.int 9]) ⟨hx, hb, hml, hown, ht⟩ (c_J0_length_8abf5_1 l dC dI ak av) (kV 0 ht m_705 m_706 m_707 m_91 m_708 rfl rfl hd_J0_length_8abf5_v ⟨Nat.le_of_ble_eq_true rfl, Nat.le_of_ble_eq_true rfl⟩) (vRZ noP (hK.sub (tys' := []) [] rfl) ((hZ.kept hS.2.1).narrow (fun _ h => h.elim)) (vk_recv hZ.1.2.2.2.2.2 (i := 1) (by decide) hS)) rfl rfl hl.1 rfl (lv_room (Nat.le_of_ble_eq_true rfl)) dX8_readOneOf_25 ⟨Nat.le_of_ble_eq_true rfl, Nat.le_of_ble_eq_true rfl⟩) (fun r43 hr43 => ?_)
                                        obtain rfl : 28 = r43 := hr43.symm
                                        refine lv_icmp_ge (tgt := 77) hx hb dX8_readOneOf_28 (by decide) (fun c44 => ?_) (fun c44 => ?_)
                                        · exact absurd c44 (by decide)
                                        · skip
                                          refine lv_aload_n hx hb dX8_readOneOf_31 rfl (lv_at hl 5 rfl) ?_
                                          refine lv_iload hx hb dX8_readOneOf_32 (lv_at hl 0 rfl) ?_
                                          refine vp_callSi (W.runV (As := [.int 9]) (rest := []) ⟨hx, hb, hml, hown, ht⟩ (c_J0_charAt_5068e_1 l dC dI ak av 9 ⟨by decide, by decide⟩) (kV 1 ht m_715 m_716 m_717 m_91 m_718 rfl rfl hd_J0_charAt_5068e_v ⟨Nat.le_of_ble_eq_true rfl, Nat.le_of_ble_eq_true rfl⟩) (vRZ noP (hK.sub (tys' := []) [] rfl) ((hZ.kept hS.2.1).narrow (fun _ h => h.elim)) (vk_recv hZ.1.2.2.2.2.2 (i := 1) (by decide) hS)) rfl rfl hl.1 rfl (lv_room (Nat.le_of_ble_eq_true rfl)) dX8_readOneOf_34 ⟨Nat.le_of_ble_eq_true rfl, Nat.le_of_ble_eq_true rfl⟩) (fun r45 hr45 => ?_)
                                          obtain rfl : 105 = r45 := (hr45.trans (by decide)).symm
                                          refine lv_bipush (v := 32) hx hb dX8_readOneOf_37 (by decide) ?_
                                          refine lv_icmp_ne (tgt := 71) hx hb dX8_readOneOf_39 (by decide) (fun c46 => ?_) (fun c46 => ?_)
                                          · skip
                                            refine lv_iinc (v := 10) (lv' := [(5, .int 10), (4, .int 6), (3, .int 1), (2, .int r3), (0, .ref (g 11 4)), (1, .ref (ak 1))]) hx hb dX8_readOneOf_71 hl (k := 0) rfl (by decide) (by decide) rfl (fun ls hl => ?_)
                                            refine lv_goto (tgt := 22) hx hb dX8_readOneOf_74 (by decide) ?_
                                            refine lv_iload hx hb dX8_readOneOf_22 (lv_at hl 0 rfl) ?_
                                            refine lv_aload_n hx hb dX8_readOneOf_24 rfl (lv_at hl 5 rfl) ?_
                                            refine vp_callSi (W.runV (As := []) (rest := [.int 10]) ⟨hx, hb, hml, hown, ht⟩ (c_J0_length_8abf5_1 l dC dI ak av) (kV 0 ht m_705 m_706 m_707 m_91 m_708 rfl rfl hd_J0_length_8abf5_v ⟨Nat.le_of_ble_eq_true rfl, Nat.le_of_ble_eq_true rfl⟩) (vRZ noP (hK.sub (tys' := []) [] rfl) ((hZ.kept hS.2.1).narrow (fun _ h => h.elim)) (vk_recv hZ.1.2.2.2.2.2 (i := 1) (by decide) hS)) rfl rfl hl.1 rfl (lv_room (Nat.le_of_ble_eq_true rfl)) dX8_readOneOf_25 ⟨Nat.le_of_ble_eq_true rfl, Nat.le_of_ble_eq_true rfl⟩) (fun r47 hr47 => ?_)
                                            obtain rfl : 28 = r47 := hr47.symm
                                            refine lv_icmp_ge (tgt := 77) hx hb dX8_readOneOf_28 (by decide) (fun c48 => ?_) (fun c48 => ?_)
                                            · exact absurd c48 (by decide)
                                            · skip
                                              refine lv_aload_n hx hb dX8_readOneOf_31 rfl (lv_at hl 5 rfl) ?_
                                              refine lv_iload hx hb dX8_readOneOf_32 (lv_at hl 0 rfl) ?_
                                              refine vp_callSi (W.runV (As := [.int 10]) (rest := []) ⟨hx, hb, hml, hown, ht⟩ (c_J0_charAt_5068e_1 l dC dI ak av 10 ⟨by decide, by decide⟩) (kV 1 ht m_715 m_716 m_717 m_91 m_718 rfl rfl hd_J0_charAt_5068e_v ⟨Nat.le_of_ble_eq_true rfl, Nat.le_of_ble_eq_true rfl⟩) (vRZ noP (hK.sub (tys' := []) [] rfl) ((hZ.kept hS.2.1).narrow (fun _ h => h.elim)) (vk_recv hZ.1.2.2.2.2.2 (i := 1) (by decide) hS)) rfl rfl hl.1 rfl (lv_room (Nat.le_of_ble_eq_true rfl)) dX8_readOneOf_34 ⟨Nat.le_of_ble_eq_true rfl, Nat.le_of_ble_eq_true rfl⟩) (fun r49 hr49 => ?_)
                                              obtain rfl : 110 = r49 := (hr49.trans (by decide)).symm
                                              refine lv_bipush (v := 32) hx hb dX8_readOneOf_37 (by decide) ?_
                                              refine lv_icmp_ne (tgt := 71) hx hb dX8_readOneOf_39 (by decide) (fun c50 => ?_) (fun c50 => ?_)
                                              · skip
                                                refine lv_iinc (v := 11) (lv' := [(5, .int 11), (4, .int 6), (3, .int 1), (2, .int r3), (0, .ref (g 11 4)), (1, .ref (ak 1))]) hx hb dX8_readOneOf_71 hl (k := 0) rfl (by decide) (by decide) rfl (fun ls hl => ?_)
                                                refine lv_goto (tgt := 22) hx hb dX8_readOneOf_74 (by decide) ?_
                                                refine lv_iload hx hb dX8_readOneOf_22 (lv_at hl 0 rfl) ?_
                                                refine lv_aload_n hx hb dX8_readOneOf_24 rfl (lv_at hl 5 rfl) ?_
                                                refine vp_callSi (W.runV (As := []) (rest := [.int 11]) ⟨hx, hb, hml, hown, ht⟩ (c_J0_length_8abf5_1 l dC dI ak av) (kV 0 ht m_705 m_706 m_707 m_91 m_708 rfl rfl hd_J0_length_8abf5_v ⟨Nat.le_of_ble_eq_true rfl, Nat.le_of_ble_eq_true rfl⟩) (vRZ noP (hK.sub (tys' := []) [] rfl) ((hZ.kept hS.2.1).narrow (fun _ h => h.elim)) (vk_recv hZ.1.2.2.2.2.2 (i := 1) (by decide) hS)) rfl rfl hl.1 rfl (lv_room (Nat.le_of_ble_eq_true rfl)) dX8_readOneOf_25 ⟨Nat.le_of_ble_eq_true rfl, Nat.le_of_ble_eq_true rfl⟩) (fun r51 hr51 => ?_)
                                                obtain rfl : 28 = r51 := hr51.symm
                                                refine lv_icmp_ge (tgt := 77) hx hb dX8_readOneOf_28 (by decide) (fun c52 => ?_) (fun c52 => ?_)
                                                · exact absurd c52 (by decide)
                                                · skip
                                                  refine lv_aload_n hx hb dX8_readOneOf_31 rfl (lv_at hl 5 rfl) ?_
                                                  refine lv_iload hx hb dX8_readOneOf_32 (lv_at hl 0 rfl) ?_
                                                  refine vp_callSi (W.runV (As := [.int 11]) (rest := []) ⟨hx, hb, hml, hown, ht⟩ (c_J0_charAt_5068e_1 l dC dI ak av 11 ⟨by decide, by decide⟩) (kV 1 ht m_715 m_716 m_717 m_91 m_718 rfl rfl hd_J0_charAt_5068e_v ⟨Nat.le_of_ble_eq_true rfl, Nat.le_of_ble_eq_true rfl⟩) (vRZ noP (hK.sub (tys' := []) [] rfl) ((hZ.kept hS.2.1).narrow (fun _ h => h.elim)) (vk_recv hZ.1.2.2.2.2.2 (i := 1) (by decide) hS)) rfl rfl hl.1 rfl (lv_room (Nat.le_of_ble_eq_true rfl)) dX8_readOneOf_34 ⟨Nat.le_of_ble_eq_true rfl, Nat.le_of_ble_eq_true rfl⟩) (fun r53 hr53 => ?_)
                                                  obtain rfl : 115 = r53 := (hr53.trans (by decide)).symm
                                                  refine lv_bipush (v := 32) hx hb dX8_readOneOf_37 (by decide) ?_
                                                  refine lv_icmp_ne (tgt := 71) hx hb dX8_readOneOf_39 (by decide) (fun c54 => ?_) (fun c54 => ?_)
                                                  · skip
                                                    refine lv_iinc (v := 12) (lv' := [(5, .int 12), (4, .int 6), (3, .int 1), (2, .int r3), (0, .ref (g 11 4)), (1, .ref (ak 1))]) hx hb dX8_readOneOf_71 hl (k := 0) rfl (by decide) (by decide) rfl (fun ls hl => ?_)
                                                    refine lv_goto (tgt := 22) hx hb dX8_readOneOf_74 (by decide) ?_
                                                    refine lv_iload hx hb dX8_readOneOf_22 (lv_at hl 0 rfl) ?_
                                                    refine lv_aload_n hx hb dX8_readOneOf_24 rfl (lv_at hl 5 rfl) ?_
                                                    refine vp_callSi (W.runV (As := []) (rest := [.int 12]) ⟨hx, hb, hml, hown, ht⟩ (c_J0_length_8abf5_1 l dC dI ak av) (kV 0 ht m_705 m_706 m_707 m_91 m_708 rfl rfl hd_J0_length_8abf5_v ⟨Nat.le_of_ble_eq_true rfl, Nat.le_of_ble_eq_true rfl⟩) (vRZ noP (hK.sub (tys' := []) [] rfl) ((hZ.kept hS.2.1).narrow (fun _ h => h.elim)) (vk_recv hZ.1.2.2.2.2.2 (i := 1) (by decide) hS)) rfl rfl hl.1 rfl (lv_room (Nat.le_of_ble_eq_true rfl)) dX8_readOneOf_25 ⟨Nat.le_of_ble_eq_true rfl, Nat.le_of_ble_eq_true rfl⟩) (fun r55 hr55 => ?_)
                                                    obtain rfl : 28 = r55 := hr55.symm
                                                    refine lv_icmp_ge (tgt := 77) hx hb dX8_readOneOf_28 (by decide) (fun c56 => ?_) (fun c56 => ?_)
                                                    · exact absurd c56 (by decide)
                                                    · skip
                                                      refine lv_aload_n hx hb dX8_readOneOf_31 rfl (lv_at hl 5 rfl) ?_
                                                      refine lv_iload hx hb dX8_readOneOf_32 (lv_at hl 0 rfl) ?_
                                                      refine vp_callSi (W.runV (As := [.int 12]) (rest := []) ⟨hx, hb, hml, hown, ht⟩ (c_J0_charAt_5068e_1 l dC dI ak av 12 ⟨by decide, by decide⟩) (kV 1 ht m_715 m_716 m_717 m_91 m_718 rfl rfl hd_J0_charAt_5068e_v ⟨Nat.le_of_ble_eq_true rfl, Nat.le_of_ble_eq_true rfl⟩) (vRZ noP (hK.sub (tys' := []) [] rfl) ((hZ.kept hS.2.1).narrow (fun _ h => h.elim)) (vk_recv hZ.1.2.2.2.2.2 (i := 1) (by decide) hS)) rfl rfl hl.1 rfl (lv_room (Nat.le_of_ble_eq_true rfl)) dX8_readOneOf_34 ⟨Nat.le_of_ble_eq_true rfl, Nat.le_of_ble_eq_true rfl⟩) (fun r57 hr57 => ?_)
                                                      obtain rfl : 32 = r57 := (hr57.trans (by decide)).symm
                                                      refine lv_bipush (v := 32) hx hb dX8_readOneOf_37 (by decide) ?_
                                                      refine lv_icmp_ne (tgt := 71) hx hb dX8_readOneOf_39 (by decide) (fun c58 => ?_) (fun c58 => ?_)
                                                      · exact absurd rfl c58
                                                      · skip
                                                        refine lv_aload_n hx hb dX8_readOneOf_42 rfl (lv_at hl 4 rfl) ?_
                                                        refine lv_aload_n hx hb dX8_readOneOf_43 rfl (lv_at hl 5 rfl) ?_
                                                        refine lv_iload hx hb dX8_readOneOf_44 (lv_at hl 1 rfl) ?_
                                                        refine lv_iload hx hb dX8_readOneOf_46 (lv_at hl 0 rfl) ?_
                                                        refine lv_iload_n hx hb dX8_readOneOf_48 rfl (lv_at hl 3 rfl) ?_
                                                        refine vp_callSi (W.runV (As := [.ref (ak 1), .int 6, .int 12, .int r3]) (rest := []) ⟨hx, hb, hml, hown, ht⟩ (c_X8_isSame_g1 l dC dI ak av h g ca (u2 iv 8 5 n2) lv fa la (IX_i (c := 8) (k := 5) hI (show inb (0, 200) n2 from ⟨by omega, by omega⟩)) 6 12 r3 ⟨by decide, by decide⟩ ⟨by decide, by decide⟩ ⟨by omega, by omega⟩) (kV 4 ht m_753 m_755 m_20 m_82 m_756 rfl rfl hd_X8_isSame_v ⟨Nat.le_of_ble_eq_true rfl, Nat.le_of_ble_eq_true rfl⟩) (vRZ hP hK ((hZ.kept hS.2.1).narrow (fun _ h => h.elim)) (rX_8 hK hP)) rfl rfl hl.1 rfl (lv_room (Nat.le_of_ble_eq_true rfl)) dX8_readOneOf_49 ⟨Nat.le_of_ble_eq_true rfl, Nat.le_of_ble_eq_true rfl⟩) (fun r59 hr59 => ?_)
                                                        obtain ⟨hr59, xr59_0⟩ := hr59
                                                        have : (12 : Int32).toInt = 12 := (by decide)
                                                        have : (6 : Int32).toInt = 6 := (by decide)
                                                        have xr59_0 : (((r59 : Int32).toInt = 1 ∧ WdG (fun j => ((fa 8 1) j).toInt) (n2 : Int32).toInt (r3 : Int32).toInt ((12 : Int32).toInt - (6 : Int32).toInt) (LsW 1 (6 : Int32).toInt)) ∨ ((r59 : Int32).toInt = 0 ∧ ¬ WdG (fun j => ((fa 8 1) j).toInt) (n2 : Int32).toInt (r3 : Int32).toInt ((12 : Int32).toInt - (6 : Int32).toInt) (LsW 1 (6 : Int32).toInt))) := xr59_0
                                                        refine lv_if_eq (tgt := 62) hx hb dX8_readOneOf_52 (by decide) (fun c60 => ?_) (fun c60 => ?_)
                                                        · have fc60 := z_eq (rfl : (r59).toInt = _) (by decide : (0 : Int32).toInt = 0) c60
                                                          refine lv_iinc (v := 2) (lv' := [(3, .int 2), (5, .int 12), (4, .int 6), (2, .int r3), (0, .ref (g 11 4)), (1, .ref (ak 1))]) hx hb dX8_readOneOf_62 hl (k := 2) rfl (by decide) (by decide) rfl (fun ls hl => ?_)
                                                          refine lv_iload hx hb dX8_readOneOf_65 (lv_at hl 1 rfl) ?_
                                                          refine lv_iconst (v := 1) hx hb dX8_readOneOf_67 (by decide) ?_
                                                          refine lv_iadd hx hb dX8_readOneOf_68 ?_
                                                          refine lv_topi (fun v61 ev61 => ?_)
                                                          obtain rfl : 13 = v61 := (ev61.trans (by decide)).symm
                                                          refine lv_istore (lv' := [(4, .int 13), (3, .int 2), (5, .int 12), (2, .int r3), (0, .ref (g 11 4)), (1, .ref (ak 1))]) hx hb dX8_readOneOf_69 hl (by decide) rfl (fun ls hl => ?_)
                                                          refine lv_iinc (v := 13) (lv' := [(5, .int 13), (4, .int 13), (3, .int 2), (2, .int r3), (0, .ref (g 11 4)), (1, .ref (ak 1))]) hx hb dX8_readOneOf_71 hl (k := 2) rfl (by decide) (by decide) rfl (fun ls hl => ?_)
                                                          refine lv_goto (tgt := 22) hx hb dX8_readOneOf_74 (by decide) ?_
                                                          refine lv_iload hx hb dX8_readOneOf_22 (lv_at hl 0 rfl) ?_
                                                          refine lv_aload_n hx hb dX8_readOneOf_24 rfl (lv_at hl 5 rfl) ?_
                                                          refine vp_callSi (W.runV (As := []) (rest := [.int 13]) ⟨hx, hb, hml, hown, ht⟩ (c_J0_length_8abf5_1 l dC dI ak av) (kV 0 ht m_705 m_706 m_707 m_91 m_708 rfl rfl hd_J0_length_8abf5_v ⟨Nat.le_of_ble_eq_true rfl, Nat.le_of_ble_eq_true rfl⟩) (vRZ noP (hK.sub (tys' := []) [] rfl) ((hZ.kept hS.2.1).narrow (fun _ h => h.elim)) (vk_recv hZ.1.2.2.2.2.2 (i := 1) (by decide) hS)) rfl rfl hl.1 rfl (lv_room (Nat.le_of_ble_eq_true rfl)) dX8_readOneOf_25 ⟨Nat.le_of_ble_eq_true rfl, Nat.le_of_ble_eq_true rfl⟩) (fun r62 hr62 => ?_)
                                                          obtain rfl : 28 = r62 := hr62.symm
                                                          refine lv_icmp_ge (tgt := 77) hx hb dX8_readOneOf_28 (by decide) (fun c63 => ?_) (fun c63 => ?_)
                                                          · exact absurd c63 (by decide)
                                                          · skip
                                                            refine lv_aload_n hx hb dX8_readOneOf_31 rfl (lv_at hl 5 rfl) ?_
                                                            refine lv_iload hx hb dX8_readOneOf_32 (lv_at hl 0 rfl) ?_
                                                            refine vp_callSi (W.runV (As := [.int 13]) (rest := []) ⟨hx, hb, hml, hown, ht⟩ (c_J0_charAt_5068e_1 l dC dI ak av 13 ⟨by decide, by decide⟩) (kV 1 ht m_715 m_716 m_717 m_91 m_718 rfl rfl hd_J0_charAt_5068e_v ⟨Nat.le_of_ble_eq_true rfl, Nat.le_of_ble_eq_true rfl⟩) (vRZ noP (hK.sub (tys' := []) [] rfl) ((hZ.kept hS.2.1).narrow (fun _ h => h.elim)) (vk_recv hZ.1.2.2.2.2.2 (i := 1) (by decide) hS)) rfl rfl hl.1 rfl (lv_room (Nat.le_of_ble_eq_true rfl)) dX8_readOneOf_34 ⟨Nat.le_of_ble_eq_true rfl, Nat.le_of_ble_eq_true rfl⟩) (fun r64 hr64 => ?_)
                                                            obtain rfl : 112 = r64 := (hr64.trans (by decide)).symm
                                                            refine lv_bipush (v := 32) hx hb dX8_readOneOf_37 (by decide) ?_
                                                            refine lv_icmp_ne (tgt := 71) hx hb dX8_readOneOf_39 (by decide) (fun c65 => ?_) (fun c65 => ?_)
                                                            · skip
                                                              refine lv_iinc (v := 14) (lv' := [(5, .int 14), (4, .int 13), (3, .int 2), (2, .int r3), (0, .ref (g 11 4)), (1, .ref (ak 1))]) hx hb dX8_readOneOf_71 hl (k := 0) rfl (by decide) (by decide) rfl (fun ls hl => ?_)
                                                              refine lv_goto (tgt := 22) hx hb dX8_readOneOf_74 (by decide) ?_
                                                              refine lv_iload hx hb dX8_readOneOf_22 (lv_at hl 0 rfl) ?_
                                                              refine lv_aload_n hx hb dX8_readOneOf_24 rfl (lv_at hl 5 rfl) ?_
                                                              refine vp_callSi (W.runV (As := []) (rest := [.int 14]) ⟨hx, hb, hml, hown, ht⟩ (c_J0_length_8abf5_1 l dC dI ak av) (kV 0 ht m_705 m_706 m_707 m_91 m_708 rfl rfl hd_J0_length_8abf5_v ⟨Nat.le_of_ble_eq_true rfl, Nat.le_of_ble_eq_true rfl⟩) (vRZ noP (hK.sub (tys' := []) [] rfl) ((hZ.kept hS.2.1).narrow (fun _ h => h.elim)) (vk_recv hZ.1.2.2.2.2.2 (i := 1) (by decide) hS)) rfl rfl hl.1 rfl (lv_room (Nat.le_of_ble_eq_true rfl)) dX8_readOneOf_25 ⟨Nat.le_of_ble_eq_true rfl, Nat.le_of_ble_eq_true rfl⟩) (fun r66 hr66 => ?_)
                                                              obtain rfl : 28 = r66 := hr66.symm
                                                              refine lv_icmp_ge (tgt := 77) hx hb dX8_readOneOf_28 (by decide) (fun c67 => ?_) (fun c67 => ?_)
                                                              · exact absurd c67 (by decide)
                                                              · skip
                                                                refine lv_aload_n hx hb dX8_readOneOf_31 rfl (lv_at hl 5 rfl) ?_
                                                                refine lv_iload hx hb dX8_readOneOf_32 (lv_at hl 0 rfl) ?_
                                                                refine vp_callSi (W.runV (As := [.int 14]) (rest := []) ⟨hx, hb, hml, hown, ht⟩ (c_J0_charAt_5068e_1 l dC dI ak av 14 ⟨by decide, by decide⟩) (kV 1 ht m_715 m_716 m_717 m_91 m_718 rfl rfl hd_J0_charAt_5068e_v ⟨Nat.le_of_ble_eq_true rfl, Nat.le_of_ble_eq_true rfl⟩) (vRZ noP (hK.sub (tys' := []) [] rfl) ((hZ.kept hS.2.1).narrow (fun _ h => h.elim)) (vk_recv hZ.1.2.2.2.2.2 (i := 1) (by decide) hS)) rfl rfl hl.1 rfl (lv_room (Nat.le_of_ble_eq_true rfl)) dX8_readOneOf_34 ⟨Nat.le_of_ble_eq_true rfl, Nat.le_of_ble_eq_true rfl⟩) (fun r68 hr68 => ?_)
                                                                obtain rfl : 97 = r68 := (hr68.trans (by decide)).symm
                                                                refine lv_bipush (v := 32) hx hb dX8_readOneOf_37 (by decide) ?_
                                                                refine lv_icmp_ne (tgt := 71) hx hb dX8_readOneOf_39 (by decide) (fun c69 => ?_) (fun c69 => ?_)
                                                                · skip
                                                                  refine lv_iinc (v := 15) (lv' := [(5, .int 15), (4, .int 13), (3, .int 2), (2, .int r3), (0, .ref (g 11 4)), (1, .ref (ak 1))]) hx hb dX8_readOneOf_71 hl (k := 0) rfl (by decide) (by decide) rfl (fun ls hl => ?_)
                                                                  refine lv_goto (tgt := 22) hx hb dX8_readOneOf_74 (by decide) ?_
                                                                  refine lv_iload hx hb dX8_readOneOf_22 (lv_at hl 0 rfl) ?_
                                                                  refine lv_aload_n hx hb dX8_readOneOf_24 rfl (lv_at hl 5 rfl) ?_
                                                                  refine vp_callSi (W.runV (As := []) (rest := [.int 15]) ⟨hx, hb, hml, hown, ht⟩ (c_J0_length_8abf5_1 l dC dI ak av) (kV 0 ht m_705 m_706 m_707 m_91 m_708 rfl rfl hd_J0_length_8abf5_v ⟨Nat.le_of_ble_eq_true rfl, Nat.le_of_ble_eq_true rfl⟩) (vRZ noP (hK.sub (tys' := []) [] rfl) ((hZ.kept hS.2.1).narrow (fun _ h => h.elim)) (vk_recv hZ.1.2.2.2.2.2 (i := 1) (by decide) hS)) rfl rfl hl.1 rfl (lv_room (Nat.le_of_ble_eq_true rfl)) dX8_readOneOf_25 ⟨Nat.le_of_ble_eq_true rfl, Nat.le_of_ble_eq_true rfl⟩) (fun r70 hr70 => ?_)
                                                                  obtain rfl : 28 = r70 := hr70.symm
                                                                  refine lv_icmp_ge (tgt := 77) hx hb dX8_readOneOf_28 (by decide) (fun c71 => ?_) (fun c71 => ?_)
                                                                  · exact absurd c71 (by decide)
                                                                  · skip
                                                                    refine lv_aload_n hx hb dX8_readOneOf_31 rfl (lv_at hl 5 rfl) ?_
                                                                    refine lv_iload hx hb dX8_readOneOf_32 (lv_at hl 0 rfl) ?_
                                                                    refine vp_callSi (W.runV (As := [.int 15]) (rest := []) ⟨hx, hb, hml, hown, ht⟩ (c_J0_charAt_5068e_1 l dC dI ak av 15 ⟨by decide, by decide⟩) (kV 1 ht m_715 m_716 m_717 m_91 m_718 rfl rfl hd_J0_charAt_5068e_v ⟨Nat.le_of_ble_eq_true rfl, Nat.le_of_ble_eq_true rfl⟩) (vRZ noP (hK.sub (tys' := []) [] rfl) ((hZ.kept hS.2.1).narrow (fun _ h => h.elim)) (vk_recv hZ.1.2.2.2.2.2 (i := 1) (by decide) hS)) rfl rfl hl.1 rfl (lv_room (Nat.le_of_ble_eq_true rfl)) dX8_readOneOf_34 ⟨Nat.le_of_ble_eq_true rfl, Nat.le_of_ble_eq_true rfl⟩) (fun r72 hr72 => ?_)
                                                                    obtain rfl : 114 = r72 := (hr72.trans (by decide)).symm
                                                                    refine lv_bipush (v := 32) hx hb dX8_readOneOf_37 (by decide) ?_
                                                                    refine lv_icmp_ne (tgt := 71) hx hb dX8_readOneOf_39 (by decide) (fun c73 => ?_) (fun c73 => ?_)
                                                                    · skip
                                                                      refine lv_iinc (v := 16) (lv' := [(5, .int 16), (4, .int 13), (3, .int 2), (2, .int r3), (0, .ref (g 11 4)), (1, .ref (ak 1))]) hx hb dX8_readOneOf_71 hl (k := 0) rfl (by decide) (by decide) rfl (fun ls hl => ?_)
                                                                      refine lv_goto (tgt := 22) hx hb dX8_readOneOf_74 (by decide) ?_
                                                                      refine lv_iload hx hb dX8_readOneOf_22 (lv_at hl 0 rfl) ?_
                                                                      refine lv_aload_n hx hb dX8_readOneOf_24 rfl (lv_at hl 5 rfl) ?_
                                                                      refine vp_callSi (W.runV (As := []) (rest := [.int 16]) ⟨hx, hb, hml, hown, ht⟩ (c_J0_length_8abf5_1 l dC dI ak av) (kV 0 ht m_705 m_706 m_707 m_91 m_708 rfl rfl hd_J0_length_8abf5_v ⟨Nat.le_of_ble_eq_true rfl, Nat.le_of_ble_eq_true rfl⟩) (vRZ noP (hK.sub (tys' := []) [] rfl) ((hZ.kept hS.2.1).narrow (fun _ h => h.elim)) (vk_recv hZ.1.2.2.2.2.2 (i := 1) (by decide) hS)) rfl rfl hl.1 rfl (lv_room (Nat.le_of_ble_eq_true rfl)) dX8_readOneOf_25 ⟨Nat.le_of_ble_eq_true rfl, Nat.le_of_ble_eq_true rfl⟩) (fun r74 hr74 => ?_)
                                                                      obtain rfl : 28 = r74 := hr74.symm
                                                                      refine lv_icmp_ge (tgt := 77) hx hb dX8_readOneOf_28 (by decide) (fun c75 => ?_) (fun c75 => ?_)
                                                                      · exact absurd c75 (by decide)
                                                                      · skip
                                                                        refine lv_aload_n hx hb dX8_readOneOf_31 rfl (lv_at hl 5 rfl) ?_
                                                                        refine lv_iload hx hb dX8_readOneOf_32 (lv_at hl 0 rfl) ?_
                                                                        refine vp_callSi (W.runV (As := [.int 16]) (rest := []) ⟨hx, hb, hml, hown, ht⟩ (c_J0_charAt_5068e_1 l dC dI ak av 16 ⟨by decide, by decide⟩) (kV 1 ht m_715 m_716 m_717 m_91 m_718 rfl rfl hd_J0_charAt_5068e_v ⟨Nat.le_of_ble_eq_true rfl, Nat.le_of_ble_eq_true rfl⟩) (vRZ noP (hK.sub (tys' := []) [] rfl) ((hZ.kept hS.2.1).narrow (fun _ h => h.elim)) (vk_recv hZ.1.2.2.2.2.2 (i := 1) (by decide) hS)) rfl rfl hl.1 rfl (lv_room (Nat.le_of_ble_eq_true rfl)) dX8_readOneOf_34 ⟨Nat.le_of_ble_eq_true rfl, Nat.le_of_ble_eq_true rfl⟩) (fun r76 hr76 => ?_)
                                                                        obtain rfl : 116 = r76 := (hr76.trans (by decide)).symm
                                                                        refine lv_bipush (v := 32) hx hb dX8_readOneOf_37 (by decide) ?_
                                                                        refine lv_icmp_ne (tgt := 71) hx hb dX8_readOneOf_39 (by decide) (fun c77 => ?_) (fun c77 => ?_)
                                                                        · skip
                                                                          refine lv_iinc (v := 17) (lv' := [(5, .int 17), (4, .int 13), (3, .int 2), (2, .int r3), (0, .ref (g 11 4)), (1, .ref (ak 1))]) hx hb dX8_readOneOf_71 hl (k := 0) rfl (by decide) (by decide) rfl (fun ls hl => ?_)
                                                                          refine lv_goto (tgt := 22) hx hb dX8_readOneOf_74 (by decide) ?_
                                                                          refine lv_iload hx hb dX8_readOneOf_22 (lv_at hl 0 rfl) ?_
                                                                          refine lv_aload_n hx hb dX8_readOneOf_24 rfl (lv_at hl 5 rfl) ?_
                                                                          refine vp_callSi (W.runV (As := []) (rest := [.int 17]) ⟨hx, hb, hml, hown, ht⟩ (c_J0_length_8abf5_1 l dC dI ak av) (kV 0 ht m_705 m_706 m_707 m_91 m_708 rfl rfl hd_J0_length_8abf5_v ⟨Nat.le_of_ble_eq_true rfl, Nat.le_of_ble_eq_true rfl⟩) (vRZ noP (hK.sub (tys' := []) [] rfl) ((hZ.kept hS.2.1).narrow (fun _ h => h.elim)) (vk_recv hZ.1.2.2.2.2.2 (i := 1) (by decide) hS)) rfl rfl hl.1 rfl (lv_room (Nat.le_of_ble_eq_true rfl)) dX8_readOneOf_25 ⟨Nat.le_of_ble_eq_true rfl, Nat.le_of_ble_eq_true rfl⟩) (fun r78 hr78 => ?_)
                                                                          obtain rfl : 28 = r78 := hr78.symm
                                                                          refine lv_icmp_ge (tgt := 77) hx hb dX8_readOneOf_28 (by decide) (fun c79 => ?_) (fun c79 => ?_)
                                                                          · exact absurd c79 (by decide)
                                                                          · skip
                                                                            refine lv_aload_n hx hb dX8_readOneOf_31 rfl (lv_at hl 5 rfl) ?_
                                                                            refine lv_iload hx hb dX8_readOneOf_32 (lv_at hl 0 rfl) ?_
                                                                            refine vp_callSi (W.runV (As := [.int 17]) (rest := []) ⟨hx, hb, hml, hown, ht⟩ (c_J0_charAt_5068e_1 l dC dI ak av 17 ⟨by decide, by decide⟩) (kV 1 ht m_715 m_716 m_717 m_91 m_718 rfl rfl hd_J0_charAt_5068e_v ⟨Nat.le_of_ble_eq_true rfl, Nat.le_of_ble_eq_true rfl⟩) (vRZ noP (hK.sub (tys' := []) [] rfl) ((hZ.kept hS.2.1).narrow (fun _ h => h.elim)) (vk_recv hZ.1.2.2.2.2.2 (i := 1) (by decide) hS)) rfl rfl hl.1 rfl (lv_room (Nat.le_of_ble_eq_true rfl)) dX8_readOneOf_34 ⟨Nat.le_of_ble_eq_true rfl, Nat.le_of_ble_eq_true rfl⟩) (fun r80 hr80 => ?_)
                                                                            obtain rfl : 32 = r80 := (hr80.trans (by decide)).symm
                                                                            refine lv_bipush (v := 32) hx hb dX8_readOneOf_37 (by decide) ?_
                                                                            refine lv_icmp_ne (tgt := 71) hx hb dX8_readOneOf_39 (by decide) (fun c81 => ?_) (fun c81 => ?_)
                                                                            · exact absurd rfl c81
                                                                            · skip
                                                                              refine lv_aload_n hx hb dX8_readOneOf_42 rfl (lv_at hl 4 rfl) ?_
                                                                              refine lv_aload_n hx hb dX8_readOneOf_43 rfl (lv_at hl 5 rfl) ?_
                                                                              refine lv_iload hx hb dX8_readOneOf_44 (lv_at hl 1 rfl) ?_
                                                                              refine lv_iload hx hb dX8_readOneOf_46 (lv_at hl 0 rfl) ?_
                                                                              refine lv_iload_n hx hb dX8_readOneOf_48 rfl (lv_at hl 3 rfl) ?_
                                                                              refine vp_callSi (W.runV (As := [.ref (ak 1), .int 13, .int 17, .int r3]) (rest := []) ⟨hx, hb, hml, hown, ht⟩ (c_X8_isSame_g1 l dC dI ak av h g ca (u2 iv 8 5 n2) lv fa la (IX_i (c := 8) (k := 5) hI (show inb (0, 200) n2 from ⟨by omega, by omega⟩)) 13 17 r3 ⟨by decide, by decide⟩ ⟨by decide, by decide⟩ ⟨by omega, by omega⟩) (kV 4 ht m_753 m_755 m_20 m_82 m_756 rfl rfl hd_X8_isSame_v ⟨Nat.le_of_ble_eq_true rfl, Nat.le_of_ble_eq_true rfl⟩) (vRZ hP hK ((hZ.kept hS.2.1).narrow (fun _ h => h.elim)) (rX_8 hK hP)) rfl rfl hl.1 rfl (lv_room (Nat.le_of_ble_eq_true rfl)) dX8_readOneOf_49 ⟨Nat.le_of_ble_eq_true rfl, Nat.le_of_ble_eq_true rfl⟩) (fun r82 hr82 => ?_)
                                                                              obtain ⟨hr82, xr82_0⟩ := hr82
                                                                              have : (17 : Int32).toInt = 17 := (by decide)
                                                                              have : (13 : Int32).toInt = 13 := (by decide)
                                                                              have xr82_0 : (((r82 : Int32).toInt = 1 ∧ WdG (fun j => ((fa 8 1) j).toInt) (n2 : Int32).toInt (r3 : Int32).toInt ((17 : Int32).toInt - (13 : Int32).toInt) (LsW 1 (13 : Int32).toInt)) ∨ ((r82 : Int32).toInt = 0 ∧ ¬ WdG (fun j => ((fa 8 1) j).toInt) (n2 : Int32).toInt (r3 : Int32).toInt ((17 : Int32).toInt - (13 : Int32).toInt) (LsW 1 (13 : Int32).toInt))) := xr82_0
                                                                              refine lv_if_eq (tgt := 62) hx hb dX8_readOneOf_52 (by decide) (fun c83 => ?_) (fun c83 => ?_)
                                                                              · have fc83 := z_eq (rfl : (r82).toInt = _) (by decide : (0 : Int32).toInt = 0) c83
                                                                                refine lv_iinc (v := 3) (lv' := [(3, .int 3), (5, .int 17), (4, .int 13), (2, .int r3), (0, .ref (g 11 4)), (1, .ref (ak 1))]) hx hb dX8_readOneOf_62 hl (k := 2) rfl (by decide) (by decide) rfl (fun ls hl => ?_)
                                                                                refine lv_iload hx hb dX8_readOneOf_65 (lv_at hl 1 rfl) ?_
                                                                                refine lv_iconst (v := 1) hx hb dX8_readOneOf_67 (by decide) ?_
                                                                                refine lv_iadd hx hb dX8_readOneOf_68 ?_
                                                                                refine lv_topi (fun v84 ev84 => ?_)
                                                                                obtain rfl : 18 = v84 := (ev84.trans (by decide)).symm
                                                                                refine lv_istore (lv' := [(4, .int 18), (3, .int 3), (5, .int 17), (2, .int r3), (0, .ref (g 11 4)), (1, .ref (ak 1))]) hx hb dX8_readOneOf_69 hl (by decide) rfl (fun ls hl => ?_)
                                                                                refine lv_iinc (v := 18) (lv' := [(5, .int 18), (4, .int 18), (3, .int 3), (2, .int r3), (0, .ref (g 11 4)), (1, .ref (ak 1))]) hx hb dX8_readOneOf_71 hl (k := 2) rfl (by decide) (by decide) rfl (fun ls hl => ?_)
                                                                                refine lv_goto (tgt := 22) hx hb dX8_readOneOf_74 (by decide) ?_
                                                                                refine lv_iload hx hb dX8_readOneOf_22 (lv_at hl 0 rfl) ?_
                                                                                refine lv_aload_n hx hb dX8_readOneOf_24 rfl (lv_at hl 5 rfl) ?_
                                                                                refine vp_callSi (W.runV (As := []) (rest := [.int 18]) ⟨hx, hb, hml, hown, ht⟩ (c_J0_length_8abf5_1 l dC dI ak av) (kV 0 ht m_705 m_706 m_707 m_91 m_708 rfl rfl hd_J0_length_8abf5_v ⟨Nat.le_of_ble_eq_true rfl, Nat.le_of_ble_eq_true rfl⟩) (vRZ noP (hK.sub (tys' := []) [] rfl) ((hZ.kept hS.2.1).narrow (fun _ h => h.elim)) (vk_recv hZ.1.2.2.2.2.2 (i := 1) (by decide) hS)) rfl rfl hl.1 rfl (lv_room (Nat.le_of_ble_eq_true rfl)) dX8_readOneOf_25 ⟨Nat.le_of_ble_eq_true rfl, Nat.le_of_ble_eq_true rfl⟩) (fun r85 hr85 => ?_)
                                                                                obtain rfl : 28 = r85 := hr85.symm
                                                                                refine lv_icmp_ge (tgt := 77) hx hb dX8_readOneOf_28 (by decide) (fun c86 => ?_) (fun c86 => ?_)
                                                                                · exact absurd c86 (by decide)
                                                                                · skip
                                                                                  refine lv_aload_n hx hb dX8_readOneOf_31 rfl (lv_at hl 5 rfl) ?_
                                                                                  refine lv_iload hx hb dX8_readOneOf_32 (lv_at hl 0 rfl) ?_
                                                                                  refine vp_callSi (W.runV (As := [.int 18]) (rest := []) ⟨hx, hb, hml, hown, ht⟩ (c_J0_charAt_5068e_1 l dC dI ak av 18 ⟨by decide, by decide⟩) (kV 1 ht m_715 m_716 m_717 m_91 m_718 rfl rfl hd_J0_charAt_5068e_v ⟨Nat.le_of_ble_eq_true rfl, Nat.le_of_ble_eq_true rfl⟩) (vRZ noP (hK.sub (tys' := []) [] rfl) ((hZ.kept hS.2.1).narrow (fun _ h => h.elim)) (vk_recv hZ.1.2.2.2.2.2 (i := 1) (by decide) hS)) rfl rfl hl.1 rfl (lv_room (Nat.le_of_ble_eq_true rfl)) dX8_readOneOf_34 ⟨Nat.le_of_ble_eq_true rfl, Nat.le_of_ble_eq_true rfl⟩) (fun r87 hr87 => ?_)
                                                                                  obtain rfl : 108 = r87 := (hr87.trans (by decide)).symm
                                                                                  refine lv_bipush (v := 32) hx hb dX8_readOneOf_37 (by decide) ?_
                                                                                  refine lv_icmp_ne (tgt := 71) hx hb dX8_readOneOf_39 (by decide) (fun c88 => ?_) (fun c88 => ?_)
                                                                                  · skip
                                                                                    refine lv_iinc (v := 19) (lv' := [(5, .int 19), (4, .int 18), (3, .int 3), (2, .int r3), (0, .ref (g 11 4)), (1, .ref (ak 1))]) hx hb dX8_readOneOf_71 hl (k := 0) rfl (by decide) (by decide) rfl (fun ls hl => ?_)
                                                                                    refine lv_goto (tgt := 22) hx hb dX8_readOneOf_74 (by decide) ?_
                                                                                    refine lv_iload hx hb dX8_readOneOf_22 (lv_at hl 0 rfl) ?_
                                                                                    refine lv_aload_n hx hb dX8_readOneOf_24 rfl (lv_at hl 5 rfl) ?_
                                                                                    refine vp_callSi (W.runV (As := []) (rest := [.int 19]) ⟨hx, hb, hml, hown, ht⟩ (c_J0_length_8abf5_1 l dC dI ak av) (kV 0 ht m_705 m_706 m_707 m_91 m_708 rfl rfl hd_J0_length_8abf5_v ⟨Nat.le_of_ble_eq_true rfl, Nat.le_of_ble_eq_true rfl⟩) (vRZ noP (hK.sub (tys' := []) [] rfl) ((hZ.kept hS.2.1).narrow (fun _ h => h.elim)) (vk_recv hZ.1.2.2.2.2.2 (i := 1) (by decide) hS)) rfl rfl hl.1 rfl (lv_room (Nat.le_of_ble_eq_true rfl)) dX8_readOneOf_25 ⟨Nat.le_of_ble_eq_true rfl, Nat.le_of_ble_eq_true rfl⟩) (fun r89 hr89 => ?_)
                                                                                    obtain rfl : 28 = r89 := hr89.symm
                                                                                    refine lv_icmp_ge (tgt := 77) hx hb dX8_readOneOf_28 (by decide) (fun c90 => ?_) (fun c90 => ?_)
                                                                                    · exact absurd c90 (by decide)
                                                                                    · skip
                                                                                      refine lv_aload_n hx hb dX8_readOneOf_31 rfl (lv_at hl 5 rfl) ?_
                                                                                      refine lv_iload hx hb dX8_readOneOf_32 (lv_at hl 0 rfl) ?_
                                                                                      refine vp_callSi (W.runV (As := [.int 19]) (rest := []) ⟨hx, hb, hml, hown, ht⟩ (c_J0_charAt_5068e_1 l dC dI ak av 19 ⟨by decide, by decide⟩) (kV 1 ht m_715 m_716 m_717 m_91 m_718 rfl rfl hd_J0_charAt_5068e_v ⟨Nat.le_of_ble_eq_true rfl, Nat.le_of_ble_eq_true rfl⟩) (vRZ noP (hK.sub (tys' := []) [] rfl) ((hZ.kept hS.2.1).narrow (fun _ h => h.elim)) (vk_recv hZ.1.2.2.2.2.2 (i := 1) (by decide) hS)) rfl rfl hl.1 rfl (lv_room (Nat.le_of_ble_eq_true rfl)) dX8_readOneOf_34 ⟨Nat.le_of_ble_eq_true rfl, Nat.le_of_ble_eq_true rfl⟩) (fun r91 hr91 => ?_)
                                                                                      obtain rfl : 111 = r91 := (hr91.trans (by decide)).symm
                                                                                      refine lv_bipush (v := 32) hx hb dX8_readOneOf_37 (by decide) ?_
                                                                                      refine lv_icmp_ne (tgt := 71) hx hb dX8_readOneOf_39 (by decide) (fun c92 => ?_) (fun c92 => ?_)
                                                                                      · skip
                                                                                        refine lv_iinc (v := 20) (lv' := [(5, .int 20), (4, .int 18), (3, .int 3), (2, .int r3), (0, .ref (g 11 4)), (1, .ref (ak 1))]) hx hb dX8_readOneOf_71 hl (k := 0) rfl (by decide) (by decide) rfl (fun ls hl => ?_)
                                                                                        refine lv_goto (tgt := 22) hx hb dX8_readOneOf_74 (by decide) ?_
                                                                                        refine lv_iload hx hb dX8_readOneOf_22 (lv_at hl 0 rfl) ?_
                                                                                        refine lv_aload_n hx hb dX8_readOneOf_24 rfl (lv_at hl 5 rfl) ?_
                                                                                        refine vp_callSi (W.runV (As := []) (rest := [.int 20]) ⟨hx, hb, hml, hown, ht⟩ (c_J0_length_8abf5_1 l dC dI ak av) (kV 0 ht m_705 m_706 m_707 m_91 m_708 rfl rfl hd_J0_length_8abf5_v ⟨Nat.le_of_ble_eq_true rfl, Nat.le_of_ble_eq_true rfl⟩) (vRZ noP (hK.sub (tys' := []) [] rfl) ((hZ.kept hS.2.1).narrow (fun _ h => h.elim)) (vk_recv hZ.1.2.2.2.2.2 (i := 1) (by decide) hS)) rfl rfl hl.1 rfl (lv_room (Nat.le_of_ble_eq_true rfl)) dX8_readOneOf_25 ⟨Nat.le_of_ble_eq_true rfl, Nat.le_of_ble_eq_true rfl⟩) (fun r93 hr93 => ?_)
                                                                                        obtain rfl : 28 = r93 := hr93.symm
                                                                                        refine lv_icmp_ge (tgt := 77) hx hb dX8_readOneOf_28 (by decide) (fun c94 => ?_) (fun c94 => ?_)
                                                                                        · exact absurd c94 (by decide)
                                                                                        · skip
                                                                                          refine lv_aload_n hx hb dX8_readOneOf_31 rfl (lv_at hl 5 rfl) ?_
                                                                                          refine lv_iload hx hb dX8_readOneOf_32 (lv_at hl 0 rfl) ?_
                                                                                          refine vp_callSi (W.runV (As := [.int 20]) (rest := []) ⟨hx, hb, hml, hown, ht⟩ (c_J0_charAt_5068e_1 l dC dI ak av 20 ⟨by decide, by decide⟩) (kV 1 ht m_715 m_716 m_717 m_91 m_718 rfl rfl hd_J0_charAt_5068e_v ⟨Nat.le_of_ble_eq_true rfl, Nat.le_of_ble_eq_true rfl⟩) (vRZ noP (hK.sub (tys' := []) [] rfl) ((hZ.kept hS.2.1).narrow (fun _ h => h.elim)) (vk_recv hZ.1.2.2.2.2.2 (i := 1) (by decide) hS)) rfl rfl hl.1 rfl (lv_room (Nat.le_of_ble_eq_true rfl)) dX8_readOneOf_34 ⟨Nat.le_of_ble_eq_true rfl, Nat.le_of_ble_eq_true rfl⟩) (fun r95 hr95 => ?_)
                                                                                          obtain rfl : 111 = r95 := (hr95.trans (by decide)).symm
                                                                                          refine lv_bipush (v := 32) hx hb dX8_readOneOf_37 (by decide) ?_
                                                                                          refine lv_icmp_ne (tgt := 71) hx hb dX8_readOneOf_39 (by decide) (fun c96 => ?_) (fun c96 => ?_)
                                                                                          · skip
                                                                                            refine lv_iinc (v := 21) (lv' := [(5, .int 21), (4, .int 18), (3, .int 3), (2, .int r3), (0, .ref (g 11 4)), (1, .ref (ak 1))]) hx hb dX8_readOneOf_71 hl (k := 0) rfl (by decide) (by decide) rfl (fun ls hl => ?_)
                                                                                            refine lv_goto (tgt := 22) hx hb dX8_readOneOf_74 (by decide) ?_
                                                                                            refine lv_iload hx hb dX8_readOneOf_22 (lv_at hl 0 rfl) ?_
                                                                                            refine lv_aload_n hx hb dX8_readOneOf_24 rfl (lv_at hl 5 rfl) ?_
                                                                                            refine vp_callSi (W.runV (As := []) (rest := [.int 21]) ⟨hx, hb, hml, hown, ht⟩ (c_J0_length_8abf5_1 l dC dI ak av) (kV 0 ht m_705 m_706 m_707 m_91 m_708 rfl rfl hd_J0_length_8abf5_v ⟨Nat.le_of_ble_eq_true rfl, Nat.le_of_ble_eq_true rfl⟩) (vRZ noP (hK.sub (tys' := []) [] rfl) ((hZ.kept hS.2.1).narrow (fun _ h => h.elim)) (vk_recv hZ.1.2.2.2.2.2 (i := 1) (by decide) hS)) rfl rfl hl.1 rfl (lv_room (Nat.le_of_ble_eq_true rfl)) dX8_readOneOf_25 ⟨Nat.le_of_ble_eq_true rfl, Nat.le_of_ble_eq_true rfl⟩) (fun r97 hr97 => ?_)
                                                                                            obtain rfl : 28 = r97 := hr97.symm
                                                                                            refine lv_icmp_ge (tgt := 77) hx hb dX8_readOneOf_28 (by decide) (fun c98 => ?_) (fun c98 => ?_)
                                                                                            · exact absurd c98 (by decide)
                                                                                            · skip
                                                                                              refine lv_aload_n hx hb dX8_readOneOf_31 rfl (lv_at hl 5 rfl) ?_
                                                                                              refine lv_iload hx hb dX8_readOneOf_32 (lv_at hl 0 rfl) ?_
                                                                                              refine vp_callSi (W.runV (As := [.int 21]) (rest := []) ⟨hx, hb, hml, hown, ht⟩ (c_J0_charAt_5068e_1 l dC dI ak av 21 ⟨by decide, by decide⟩) (kV 1 ht m_715 m_716 m_717 m_91 m_718 rfl rfl hd_J0_charAt_5068e_v ⟨Nat.le_of_ble_eq_true rfl, Nat.le_of_ble_eq_true rfl⟩) (vRZ noP (hK.sub (tys' := []) [] rfl) ((hZ.kept hS.2.1).narrow (fun _ h => h.elim)) (vk_recv hZ.1.2.2.2.2.2 (i := 1) (by decide) hS)) rfl rfl hl.1 rfl (lv_room (Nat.le_of_ble_eq_true rfl)) dX8_readOneOf_34 ⟨Nat.le_of_ble_eq_true rfl, Nat.le_of_ble_eq_true rfl⟩) (fun r99 hr99 => ?_)
                                                                                              obtain rfl : 107 = r99 := (hr99.trans (by decide)).symm
                                                                                              refine lv_bipush (v := 32) hx hb dX8_readOneOf_37 (by decide) ?_
                                                                                              refine lv_icmp_ne (tgt := 71) hx hb dX8_readOneOf_39 (by decide) (fun c100 => ?_) (fun c100 => ?_)
                                                                                              · skip
                                                                                                refine lv_iinc (v := 22) (lv' := [(5, .int 22), (4, .int 18), (3, .int 3), (2, .int r3), (0, .ref (g 11 4)), (1, .ref (ak 1))]) hx hb dX8_readOneOf_71 hl (k := 0) rfl (by decide) (by decide) rfl (fun ls hl => ?_)
                                                                                                refine lv_goto (tgt := 22) hx hb dX8_readOneOf_74 (by decide) ?_
                                                                                                refine lv_iload hx hb dX8_readOneOf_22 (lv_at hl 0 rfl) ?_
                                                                                                refine lv_aload_n hx hb dX8_readOneOf_24 rfl (lv_at hl 5 rfl) ?_
                                                                                                refine vp_callSi (W.runV (As := []) (rest := [.int 22]) ⟨hx, hb, hml, hown, ht⟩ (c_J0_length_8abf5_1 l dC dI ak av) (kV 0 ht m_705 m_706 m_707 m_91 m_708 rfl rfl hd_J0_length_8abf5_v ⟨Nat.le_of_ble_eq_true rfl, Nat.le_of_ble_eq_true rfl⟩) (vRZ noP (hK.sub (tys' := []) [] rfl) ((hZ.kept hS.2.1).narrow (fun _ h => h.elim)) (vk_recv hZ.1.2.2.2.2.2 (i := 1) (by decide) hS)) rfl rfl hl.1 rfl (lv_room (Nat.le_of_ble_eq_true rfl)) dX8_readOneOf_25 ⟨Nat.le_of_ble_eq_true rfl, Nat.le_of_ble_eq_true rfl⟩) (fun r101 hr101 => ?_)
                                                                                                obtain rfl : 28 = r101 := hr101.symm
                                                                                                refine lv_icmp_ge (tgt := 77) hx hb dX8_readOneOf_28 (by decide) (fun c102 => ?_) (fun c102 => ?_)
                                                                                                · exact absurd c102 (by decide)
                                                                                                · skip
                                                                                                  refine lv_aload_n hx hb dX8_readOneOf_31 rfl (lv_at hl 5 rfl) ?_
                                                                                                  refine lv_iload hx hb dX8_readOneOf_32 (lv_at hl 0 rfl) ?_
                                                                                                  refine vp_callSi (W.runV (As := [.int 22]) (rest := []) ⟨hx, hb, hml, hown, ht⟩ (c_J0_charAt_5068e_1 l dC dI ak av 22 ⟨by decide, by decide⟩) (kV 1 ht m_715 m_716 m_717 m_91 m_718 rfl rfl hd_J0_charAt_5068e_v ⟨Nat.le_of_ble_eq_true rfl, Nat.le_of_ble_eq_true rfl⟩) (vRZ noP (hK.sub (tys' := []) [] rfl) ((hZ.kept hS.2.1).narrow (fun _ h => h.elim)) (vk_recv hZ.1.2.2.2.2.2 (i := 1) (by decide) hS)) rfl rfl hl.1 rfl (lv_room (Nat.le_of_ble_eq_true rfl)) dX8_readOneOf_34 ⟨Nat.le_of_ble_eq_true rfl, Nat.le_of_ble_eq_true rfl⟩) (fun r103 hr103 => ?_)
                                                                                                  obtain rfl : 115 = r103 := (hr103.trans (by decide)).symm
                                                                                                  refine lv_bipush (v := 32) hx hb dX8_readOneOf_37 (by decide) ?_
                                                                                                  refine lv_icmp_ne (tgt := 71) hx hb dX8_readOneOf_39 (by decide) (fun c104 => ?_) (fun c104 => ?_)
                                                                                                  · skip
                                                                                                    refine lv_iinc (v := 23) (lv' := [(5, .int 23), (4, .int 18), (3, .int 3), (2, .int r3), (0, .ref (g 11 4)), (1, .ref (ak 1))]) hx hb dX8_readOneOf_71 hl (k := 0) rfl (by decide) (by decide) rfl (fun ls hl => ?_)
                                                                                                    refine lv_goto (tgt := 22) hx hb dX8_readOneOf_74 (by decide) ?_
                                                                                                    refine lv_iload hx hb dX8_readOneOf_22 (lv_at hl 0 rfl) ?_
                                                                                                    refine lv_aload_n hx hb dX8_readOneOf_24 rfl (lv_at hl 5 rfl) ?_
                                                                                                    refine vp_callSi (W.runV (As := []) (rest := [.int 23]) ⟨hx, hb, hml, hown, ht⟩ (c_J0_length_8abf5_1 l dC dI ak av) (kV 0 ht m_705 m_706 m_707 m_91 m_708 rfl rfl hd_J0_length_8abf5_v ⟨Nat.le_of_ble_eq_true rfl, Nat.le_of_ble_eq_true rfl⟩) (vRZ noP (hK.sub (tys' := []) [] rfl) ((hZ.kept hS.2.1).narrow (fun _ h => h.elim)) (vk_recv hZ.1.2.2.2.2.2 (i := 1) (by decide) hS)) rfl rfl hl.1 rfl (lv_room (Nat.le_of_ble_eq_true rfl)) dX8_readOneOf_25 ⟨Nat.le_of_ble_eq_true rfl, Nat.le_of_ble_eq_true rfl⟩) (fun r105 hr105 => ?_)
                                                                                                    obtain rfl : 28 = r105 := hr105.symm
                                                                                                    refine lv_icmp_ge (tgt := 77) hx hb dX8_readOneOf_28 (by decide) (fun c106 => ?_) (fun c106 => ?_)
                                                                                                    · exact absurd c106 (by decide)
                                                                                                    · skip
                                                                                                      refine lv_aload_n hx hb dX8_readOneOf_31 rfl (lv_at hl 5 rfl) ?_
                                                                                                      refine lv_iload hx hb dX8_readOneOf_32 (lv_at hl 0 rfl) ?_
                                                                                                      refine vp_callSi (W.runV (As := [.int 23]) (rest := []) ⟨hx, hb, hml, hown, ht⟩ (c_J0_charAt_5068e_1 l dC dI ak av 23 ⟨by decide, by decide⟩) (kV 1 ht m_715 m_716 m_717 m_91 m_718 rfl rfl hd_J0_charAt_5068e_v ⟨Nat.le_of_ble_eq_true rfl, Nat.le_of_ble_eq_true rfl⟩) (vRZ noP (hK.sub (tys' := []) [] rfl) ((hZ.kept hS.2.1).narrow (fun _ h => h.elim)) (vk_recv hZ.1.2.2.2.2.2 (i := 1) (by decide) hS)) rfl rfl hl.1 rfl (lv_room (Nat.le_of_ble_eq_true rfl)) dX8_readOneOf_34 ⟨Nat.le_of_ble_eq_true rfl, Nat.le_of_ble_eq_true rfl⟩) (fun r107 hr107 => ?_)
                                                                                                      obtain rfl : 32 = r107 := (hr107.trans (by decide)).symm
                                                                                                      refine lv_bipush (v := 32) hx hb dX8_readOneOf_37 (by decide) ?_
                                                                                                      refine lv_icmp_ne (tgt := 71) hx hb dX8_readOneOf_39 (by decide) (fun c108 => ?_) (fun c108 => ?_)
                                                                                                      · exact absurd rfl c108
                                                                                                      · skip
                                                                                                        refine lv_aload_n hx hb dX8_readOneOf_42 rfl (lv_at hl 4 rfl) ?_
                                                                                                        refine lv_aload_n hx hb dX8_readOneOf_43 rfl (lv_at hl 5 rfl) ?_
                                                                                                        refine lv_iload hx hb dX8_readOneOf_44 (lv_at hl 1 rfl) ?_
                                                                                                        refine lv_iload hx hb dX8_readOneOf_46 (lv_at hl 0 rfl) ?_
                                                                                                        refine lv_iload_n hx hb dX8_readOneOf_48 rfl (lv_at hl 3 rfl) ?_
                                                                                                        refine vp_callSi (W.runV (As := [.ref (ak 1), .int 18, .int 23, .int r3]) (rest := []) ⟨hx, hb, hml, hown, ht⟩ (c_X8_isSame_g1 l dC dI ak av h g ca (u2 iv 8 5 n2) lv fa la (IX_i (c := 8) (k := 5) hI (show inb (0, 200) n2 from ⟨by omega, by omega⟩)) 18 23 r3 ⟨by decide, by decide⟩ ⟨by decide, by decide⟩ ⟨by omega, by omega⟩) (kV 4 ht m_753 m_755 m_20 m_82 m_756 rfl rfl hd_X8_isSame_v ⟨Nat.le_of_ble_eq_true rfl, Nat.le_of_ble_eq_true rfl⟩) (vRZ hP hK ((hZ.kept hS.2.1).narrow (fun _ h => h.elim)) (rX_8 hK hP)) rfl rfl hl.1 rfl (lv_room (Nat.le_of_ble_eq_true rfl)) dX8_readOneOf_49 ⟨Nat.le_of_ble_eq_true rfl, Nat.le_of_ble_eq_true rfl⟩) (fun r109 hr109 => ?_)
                                                                                                        obtain ⟨hr109, xr109_0⟩ := hr109
                                                                                                        have : (23 : Int32).toInt = 23 := (by decide)
                                                                                                        have : (18 : Int32).toInt = 18 := (by decide)
                                                                                                        have xr109_0 : (((r109 : Int32).toInt = 1 ∧ WdG (fun j => ((fa 8 1) j).toInt) (n2 : Int32).toInt (r3 : Int32).toInt ((23 : Int32).toInt - (18 : Int32).toInt) (LsW 1 (18 : Int32).toInt)) ∨ ((r109 : Int32).toInt = 0 ∧ ¬ WdG (fun j => ((fa 8 1) j).toInt) (n2 : Int32).toInt (r3 : Int32).toInt ((23 : Int32).toInt - (18 : Int32).toInt) (LsW 1 (18 : Int32).toInt))) := xr109_0
                                                                                                        refine lv_if_eq (tgt := 62) hx hb dX8_readOneOf_52 (by decide) (fun c110 => ?_) (fun c110 => ?_)
                                                                                                        · have fc110 := z_eq (rfl : (r109).toInt = _) (by decide : (0 : Int32).toInt = 0) c110
                                                                                                          refine lv_iinc (v := 4) (lv' := [(3, .int 4), (5, .int 23), (4, .int 18), (2, .int r3), (0, .ref (g 11 4)), (1, .ref (ak 1))]) hx hb dX8_readOneOf_62 hl (k := 2) rfl (by decide) (by decide) rfl (fun ls hl => ?_)
                                                                                                          refine lv_iload hx hb dX8_readOneOf_65 (lv_at hl 1 rfl) ?_
                                                                                                          refine lv_iconst (v := 1) hx hb dX8_readOneOf_67 (by decide) ?_
                                                                                                          refine lv_iadd hx hb dX8_readOneOf_68 ?_
                                                                                                          refine lv_topi (fun v111 ev111 => ?_)
                                                                                                          obtain rfl : 24 = v111 := (ev111.trans (by decide)).symm
                                                                                                          refine lv_istore (lv' := [(4, .int 24), (3, .int 4), (5, .int 23), (2, .int r3), (0, .ref (g 11 4)), (1, .ref (ak 1))]) hx hb dX8_readOneOf_69 hl (by decide) rfl (fun ls hl => ?_)
                                                                                                          refine lv_iinc (v := 24) (lv' := [(5, .int 24), (4, .int 24), (3, .int 4), (2, .int r3), (0, .ref (g 11 4)), (1, .ref (ak 1))]) hx hb dX8_readOneOf_71 hl (k := 2) rfl (by decide) (by decide) rfl (fun ls hl => ?_)
                                                                                                          refine lv_goto (tgt := 22) hx hb dX8_readOneOf_74 (by decide) ?_
                                                                                                          refine lv_iload hx hb dX8_readOneOf_22 (lv_at hl 0 rfl) ?_
                                                                                                          refine lv_aload_n hx hb dX8_readOneOf_24 rfl (lv_at hl 5 rfl) ?_
                                                                                                          refine vp_callSi (W.runV (As := []) (rest := [.int 24]) ⟨hx, hb, hml, hown, ht⟩ (c_J0_length_8abf5_1 l dC dI ak av) (kV 0 ht m_705 m_706 m_707 m_91 m_708 rfl rfl hd_J0_length_8abf5_v ⟨Nat.le_of_ble_eq_true rfl, Nat.le_of_ble_eq_true rfl⟩) (vRZ noP (hK.sub (tys' := []) [] rfl) ((hZ.kept hS.2.1).narrow (fun _ h => h.elim)) (vk_recv hZ.1.2.2.2.2.2 (i := 1) (by decide) hS)) rfl rfl hl.1 rfl (lv_room (Nat.le_of_ble_eq_true rfl)) dX8_readOneOf_25 ⟨Nat.le_of_ble_eq_true rfl, Nat.le_of_ble_eq_true rfl⟩) (fun r112 hr112 => ?_)
                                                                                                          obtain rfl : 28 = r112 := hr112.symm
                                                                                                          refine lv_icmp_ge (tgt := 77) hx hb dX8_readOneOf_28 (by decide) (fun c113 => ?_) (fun c113 => ?_)
                                                                                                          · exact absurd c113 (by decide)
                                                                                                          · skip
                                                                                                            refine lv_aload_n hx hb dX8_readOneOf_31 rfl (lv_at hl 5 rfl) ?_
                                                                                                            refine lv_iload hx hb dX8_readOneOf_32 (lv_at hl 0 rfl) ?_
                                                                                                            refine vp_callSi (W.runV (As := [.int 24]) (rest := []) ⟨hx, hb, hml, hown, ht⟩ (c_J0_charAt_5068e_1 l dC dI ak av 24 ⟨by decide, by decide⟩) (kV 1 ht m_715 m_716 m_717 m_91 m_718 rfl rfl hd_J0_charAt_5068e_v ⟨Nat.le_of_ble_eq_true rfl, Nat.le_of_ble_eq_true rfl⟩) (vRZ noP (hK.sub (tys' := []) [] rfl) ((hZ.kept hS.2.1).narrow (fun _ h => h.elim)) (vk_recv hZ.1.2.2.2.2.2 (i := 1) (by decide) hS)) rfl rfl hl.1 rfl (lv_room (Nat.le_of_ble_eq_true rfl)) dX8_readOneOf_34 ⟨Nat.le_of_ble_eq_true rfl, Nat.le_of_ble_eq_true rfl⟩) (fun r114 hr114 => ?_)
                                                                                                            obtain rfl : 102 = r114 := (hr114.trans (by decide)).symm
                                                                                                            refine lv_bipush (v := 32) hx hb dX8_readOneOf_37 (by decide) ?_
                                                                                                            refine lv_icmp_ne (tgt := 71) hx hb dX8_readOneOf_39 (by decide) (fun c115 => ?_) (fun c115 => ?_)
                                                                                                            · skip
                                                                                                              refine lv_iinc (v := 25) (lv' := [(5, .int 25), (4, .int 24), (3, .int 4), (2, .int r3), (0, .ref (g 11 4)), (1, .ref (ak 1))]) hx hb dX8_readOneOf_71 hl (k := 0) rfl (by decide) (by decide) rfl (fun ls hl => ?_)
                                                                                                              refine lv_goto (tgt := 22) hx hb dX8_readOneOf_74 (by decide) ?_
                                                                                                              refine lv_iload hx hb dX8_readOneOf_22 (lv_at hl 0 rfl) ?_
                                                                                                              refine lv_aload_n hx hb dX8_readOneOf_24 rfl (lv_at hl 5 rfl) ?_
                                                                                                              refine vp_callSi (W.runV (As := []) (rest := [.int 25]) ⟨hx, hb, hml, hown, ht⟩ (c_J0_length_8abf5_1 l dC dI ak av) (kV 0 ht m_705 m_706 m_707 m_91 m_708 rfl rfl hd_J0_length_8abf5_v ⟨Nat.le_of_ble_eq_true rfl, Nat.le_of_ble_eq_true rfl⟩) (vRZ noP (hK.sub (tys' := []) [] rfl) ((hZ.kept hS.2.1).narrow (fun _ h => h.elim)) (vk_recv hZ.1.2.2.2.2.2 (i := 1) (by decide) hS)) rfl rfl hl.1 rfl (lv_room (Nat.le_of_ble_eq_true rfl)) dX8_readOneOf_25 ⟨Nat.le_of_ble_eq_true rfl, Nat.le_of_ble_eq_true rfl⟩) (fun r116 hr116 => ?_)
                                                                                                              obtain rfl : 28 = r116 := hr116.symm
                                                                                                              refine lv_icmp_ge (tgt := 77) hx hb dX8_readOneOf_28 (by decide) (fun c117 => ?_) (fun c117 => ?_)
                                                                                                              · exact absurd c117 (by decide)
                                                                                                              · skip
                                                                                                                refine lv_aload_n hx hb dX8_readOneOf_31 rfl (lv_at hl 5 rfl) ?_
                                                                                                                refine lv_iload hx hb dX8_readOneOf_32 (lv_at hl 0 rfl) ?_
                                                                                                                refine vp_callSi (W.runV (As := [.int 25]) (rest := []) ⟨hx, hb, hml, hown, ht⟩ (c_J0_charAt_5068e_1 l dC dI ak av 25 ⟨by decide, by decide⟩) (kV 1 ht m_715 m_716 m_717 m_91 m_718 rfl rfl hd_J0_charAt_5068e_v ⟨Nat.le_of_ble_eq_true rfl, Nat.le_of_ble_eq_true rfl⟩) (vRZ noP (hK.sub (tys' := []) [] rfl) ((hZ.kept hS.2.1).narrow (fun _ h => h.elim)) (vk_recv hZ.1.2.2.2.2.2 (i := 1) (by decide) hS)) rfl rfl hl.1 rfl (lv_room (Nat.le_of_ble_eq_true rfl)) dX8_readOneOf_34 ⟨Nat.le_of_ble_eq_true rfl, Nat.le_of_ble_eq_true rfl⟩) (fun r118 hr118 => ?_)
                                                                                                                obtain rfl : 101 = r118 := (hr118.trans (by decide)).symm
                                                                                                                refine lv_bipush (v := 32) hx hb dX8_readOneOf_37 (by decide) ?_
                                                                                                                refine lv_icmp_ne (tgt := 71) hx hb dX8_readOneOf_39 (by decide) (fun c119 => ?_) (fun c119 => ?_)
                                                                                                                · skip
                                                                                                                  refine lv_iinc (v := 26) (lv' := [(5, .int 26), (4, .int 24), (3, .int 4), (2, .int r3), (0, .ref (g 11 4)), (1, .ref (ak 1))]) hx hb dX8_readOneOf_71 hl (k := 0) rfl (by decide) (by decide) rfl (fun ls hl => ?_)
                                                                                                                  refine lv_goto (tgt := 22) hx hb dX8_readOneOf_74 (by decide) ?_
                                                                                                                  refine lv_iload hx hb dX8_readOneOf_22 (lv_at hl 0 rfl) ?_
                                                                                                                  refine lv_aload_n hx hb dX8_readOneOf_24 rfl (lv_at hl 5 rfl) ?_
                                                                                                                  refine vp_callSi (W.runV (As := []) (rest := [.int 26]) ⟨hx, hb, hml, hown, ht⟩ (c_J0_length_8abf5_1 l dC dI ak av) (kV 0 ht m_705 m_706 m_707 m_91 m_708 rfl rfl hd_J0_length_8abf5_v ⟨Nat.le_of_ble_eq_true rfl, Nat.le_of_ble_eq_true rfl⟩) (vRZ noP (hK.sub (tys' := []) [] rfl) ((hZ.kept hS.2.1).narrow (fun _ h => h.elim)) (vk_recv hZ.1.2.2.2.2.2 (i := 1) (by decide) hS)) rfl rfl hl.1 rfl (lv_room (Nat.le_of_ble_eq_true rfl)) dX8_readOneOf_25 ⟨Nat.le_of_ble_eq_true rfl, Nat.le_of_ble_eq_true rfl⟩) (fun r120 hr120 => ?_)
                                                                                                                  obtain rfl : 28 = r120 := hr120.symm
                                                                                                                  refine lv_icmp_ge (tgt := 77) hx hb dX8_readOneOf_28 (by decide) (fun c121 => ?_) (fun c121 => ?_)
                                                                                                                  · exact absurd c121 (by decide)
                                                                                                                  · skip
                                                                                                                    refine lv_aload_n hx hb dX8_readOneOf_31 rfl (lv_at hl 5 rfl) ?_
                                                                                                                    refine lv_iload hx hb dX8_readOneOf_32 (lv_at hl 0 rfl) ?_
                                                                                                                    refine vp_callSi (W.runV (As := [.int 26]) (rest := []) ⟨hx, hb, hml, hown, ht⟩ (c_J0_charAt_5068e_1 l dC dI ak av 26 ⟨by decide, by decide⟩) (kV 1 ht m_715 m_716 m_717 m_91 m_718 rfl rfl hd_J0_charAt_5068e_v ⟨Nat.le_of_ble_eq_true rfl, Nat.le_of_ble_eq_true rfl⟩) (vRZ noP (hK.sub (tys' := []) [] rfl) ((hZ.kept hS.2.1).narrow (fun _ h => h.elim)) (vk_recv hZ.1.2.2.2.2.2 (i := 1) (by decide) hS)) rfl rfl hl.1 rfl (lv_room (Nat.le_of_ble_eq_true rfl)) dX8_readOneOf_34 ⟨Nat.le_of_ble_eq_true rfl, Nat.le_of_ble_eq_true rfl⟩) (fun r122 hr122 => ?_)
                                                                                                                    obtain rfl : 101 = r122 := (hr122.trans (by decide)).symm
                                                                                                                    refine lv_bipush (v := 32) hx hb dX8_readOneOf_37 (by decide) ?_
                                                                                                                    refine lv_icmp_ne (tgt := 71) hx hb dX8_readOneOf_39 (by decide) (fun c123 => ?_) (fun c123 => ?_)
                                                                                                                    · skip
                                                                                                                      refine lv_iinc (v := 27) (lv' := [(5, .int 27), (4, .int 24), (3, .int 4), (2, .int r3), (0, .ref (g 11 4)), (1, .ref (ak 1))]) hx hb dX8_readOneOf_71 hl (k := 0) rfl (by decide) (by decide) rfl (fun ls hl => ?_)
                                                                                                                      refine lv_goto (tgt := 22) hx hb dX8_readOneOf_74 (by decide) ?_
                                                                                                                      refine lv_iload hx hb dX8_readOneOf_22 (lv_at hl 0 rfl) ?_
                                                                                                                      refine lv_aload_n hx hb dX8_readOneOf_24 rfl (lv_at hl 5 rfl) ?_
                                                                                                                      refine vp_callSi (W.runV (As := []) (rest := [.int 27]) ⟨hx, hb, hml, hown, ht⟩ (c_J0_length_8abf5_1 l dC dI ak av) (kV 0 ht m_705 m_706 m_707 m_91 m_708 rfl rfl hd_J0_length_8abf5_v ⟨Nat.le_of_ble_eq_true rfl, Nat.le_of_ble_eq_true rfl⟩) (vRZ noP (hK.sub (tys' := []) [] rfl) ((hZ.kept hS.2.1).narrow (fun _ h => h.elim)) (vk_recv hZ.1.2.2.2.2.2 (i := 1) (by decide) hS)) rfl rfl hl.1 rfl (lv_room (Nat.le_of_ble_eq_true rfl)) dX8_readOneOf_25 ⟨Nat.le_of_ble_eq_true rfl, Nat.le_of_ble_eq_true rfl⟩) (fun r124 hr124 => ?_)
                                                                                                                      obtain rfl : 28 = r124 := hr124.symm
                                                                                                                      refine lv_icmp_ge (tgt := 77) hx hb dX8_readOneOf_28 (by decide) (fun c125 => ?_) (fun c125 => ?_)
                                                                                                                      · exact absurd c125 (by decide)
                                                                                                                      · skip
                                                                                                                        refine lv_aload_n hx hb dX8_readOneOf_31 rfl (lv_at hl 5 rfl) ?_
                                                                                                                        refine lv_iload hx hb dX8_readOneOf_32 (lv_at hl 0 rfl) ?_
                                                                                                                        refine vp_callSi (W.runV (As := [.int 27]) (rest := []) ⟨hx, hb, hml, hown, ht⟩ (c_J0_charAt_5068e_1 l dC dI ak av 27 ⟨by decide, by decide⟩) (kV 1 ht m_715 m_716 m_717 m_91 m_718 rfl rfl hd_J0_charAt_5068e_v ⟨Nat.le_of_ble_eq_true rfl, Nat.le_of_ble_eq_true rfl⟩) (vRZ noP (hK.sub (tys' := []) [] rfl) ((hZ.kept hS.2.1).narrow (fun _ h => h.elim)) (vk_recv hZ.1.2.2.2.2.2 (i := 1) (by decide) hS)) rfl rfl hl.1 rfl (lv_room (Nat.le_of_ble_eq_true rfl)) dX8_readOneOf_34 ⟨Nat.le_of_ble_eq_true rfl, Nat.le_of_ble_eq_true rfl⟩) (fun r126 hr126 => ?_)
                                                                                                                        obtain rfl : 32 = r126 := (hr126.trans (by decide)).symm
                                                                                                                        refine lv_bipush (v := 32) hx hb dX8_readOneOf_37 (by decide) ?_
                                                                                                                        refine lv_icmp_ne (tgt := 71) hx hb dX8_readOneOf_39 (by decide) (fun c127 => ?_) (fun c127 => ?_)
                                                                                                                        · exact absurd rfl c127
                                                                                                                        · skip
                                                                                                                          refine lv_aload_n hx hb dX8_readOneOf_42 rfl (lv_at hl 4 rfl) ?_
                                                                                                                          refine lv_aload_n hx hb dX8_readOneOf_43 rfl (lv_at hl 5 rfl) ?_
                                                                                                                          refine lv_iload hx hb dX8_readOneOf_44 (lv_at hl 1 rfl) ?_
                                                                                                                          refine lv_iload hx hb dX8_readOneOf_46 (lv_at hl 0 rfl) ?_
                                                                                                                          refine lv_iload_n hx hb dX8_readOneOf_48 rfl (lv_at hl 3 rfl) ?_
                                                                                                                          refine vp_callSi (W.runV (As := [.ref (ak 1), .int 24, .int 27, .int r3]) (rest := []) ⟨hx, hb, hml, hown, ht⟩ (c_X8_isSame_g1 l dC dI ak av h g ca (u2 iv 8 5 n2) lv fa la (IX_i (c := 8) (k := 5) hI (show inb (0, 200) n2 from ⟨by omega, by omega⟩)) 24 27 r3 ⟨by decide, by decide⟩ ⟨by decide, by decide⟩ ⟨by omega, by omega⟩) (kV 4 ht m_753 m_755 m_20 m_82 m_756 rfl rfl hd_X8_isSame_v ⟨Nat.le_of_ble_eq_true rfl, Nat.le_of_ble_eq_true rfl⟩) (vRZ hP hK ((hZ.kept hS.2.1).narrow (fun _ h => h.elim)) (rX_8 hK hP)) rfl rfl hl.1 rfl (lv_room (Nat.le_of_ble_eq_true rfl)) dX8_readOneOf_49 ⟨Nat.le_of_ble_eq_true rfl, Nat.le_of_ble_eq_true rfl⟩) (fun r128 hr128 => ?_)
                                                                                                                          obtain ⟨hr128, xr128_0⟩ := hr128
                                                                                                                          have : (27 : Int32).toInt = 27 := (by decide)
                                                                                                                          have : (24 : Int32).toInt = 24 := (by decide)
                                                                                                                          have xr128_0 : (((r128 : Int32).toInt = 1 ∧ WdG (fun j => ((fa 8 1) j).toInt) (n2 : Int32).toInt (r3 : Int32).toInt ((27 : Int32).toInt - (24 : Int32).toInt) (LsW 1 (24 : Int32).toInt)) ∨ ((r128 : Int32).toInt = 0 ∧ ¬ WdG (fun j => ((fa 8 1) j).toInt) (n2 : Int32).toInt (r3 : Int32).toInt ((27 : Int32).toInt - (24 : Int32).toInt) (LsW 1 (24 : Int32).toInt))) := xr128_0
                                                                                                                          refine lv_if_eq (tgt := 62) hx hb dX8_readOneOf_52 (by decide) (fun c129 => ?_) (fun c129 => ?_)
                                                                                                                          · have fc129 := z_eq (rfl : (r128).toInt = _) (by decide : (0 : Int32).toInt = 0) c129
                                                                                                                            refine lv_iinc (v := 5) (lv' := [(3, .int 5), (5, .int 27), (4, .int 24), (2, .int r3), (0, .ref (g 11 4)), (1, .ref (ak 1))]) hx hb dX8_readOneOf_62 hl (k := 2) rfl (by decide) (by decide) rfl (fun ls hl => ?_)
                                                                                                                            refine lv_iload hx hb dX8_readOneOf_65 (lv_at hl 1 rfl) ?_
                                                                                                                            refine lv_iconst (v := 1) hx hb dX8_readOneOf_67 (by decide) ?_
                                                                                                                            refine lv_iadd hx hb dX8_readOneOf_68 ?_
                                                                                                                            refine lv_topi (fun v130 ev130 => ?_)
                                                                                                                            obtain rfl : 28 = v130 := (ev130.trans (by decide)).symm
                                                                                                                            refine lv_istore (lv' := [(4, .int 28), (3, .int 5), (5, .int 27), (2, .int r3), (0, .ref (g 11 4)), (1, .ref (ak 1))]) hx hb dX8_readOneOf_69 hl (by decide) rfl (fun ls hl => ?_)
                                                                                                                            refine lv_iinc (v := 28) (lv' := [(5, .int 28), (4, .int 28), (3, .int 5), (2, .int r3), (0, .ref (g 11 4)), (1, .ref (ak 1))]) hx hb dX8_readOneOf_71 hl (k := 2) rfl (by decide) (by decide) rfl (fun ls hl => ?_)
                                                                                                                            refine lv_goto (tgt := 22) hx hb dX8_readOneOf_74 (by decide) ?_
                                                                                                                            refine lv_iload hx hb dX8_readOneOf_22 (lv_at hl 0 rfl) ?_
                                                                                                                            refine lv_aload_n hx hb dX8_readOneOf_24 rfl (lv_at hl 5 rfl) ?_
                                                                                                                            refine vp_callSi (W.runV (As := []) (rest := [.int 28]) ⟨hx, hb, hml, hown, ht⟩ (c_J0_length_8abf5_1 l dC dI ak av) (kV 0 ht m_705 m_706 m_707 m_91 m_708 rfl rfl hd_J0_length_8abf5_v ⟨Nat.le_of_ble_eq_true rfl, Nat.le_of_ble_eq_true rfl⟩) (vRZ noP (hK.sub (tys' := []) [] rfl) ((hZ.kept hS.2.1).narrow (fun _ h => h.elim)) (vk_recv hZ.1.2.2.2.2.2 (i := 1) (by decide) hS)) rfl rfl hl.1 rfl (lv_room (Nat.le_of_ble_eq_true rfl)) dX8_readOneOf_25 ⟨Nat.le_of_ble_eq_true rfl, Nat.le_of_ble_eq_true rfl⟩) (fun r131 hr131 => ?_)
                                                                                                                            obtain rfl : 28 = r131 := hr131.symm
                                                                                                                            refine lv_icmp_ge (tgt := 77) hx hb dX8_readOneOf_28 (by decide) (fun c132 => ?_) (fun c132 => ?_)
                                                                                                                            · skip
                                                                                                                              refine lv_aload_n hx hb dX8_readOneOf_77 rfl (lv_at hl 4 rfl) ?_
                                                                                                                              refine lv_iconst (v := 1) hx hb dX8_readOneOf_78 (by decide) ?_
                                                                                                                              refine lv_aload_n hx hb dX8_readOneOf_79 rfl (lv_at hl 4 rfl) ?_
                                                                                                                              refine gX_8_5 hx hb ht hown hK hP m_235 (v := n2) rfl dX8_readOneOf_80 ?_
                                                                                                                              have hFc := free_all hD hS hA
                                                                                                                              refine va_calli (va_runV (As := [.int 1, .int n2]) (rest := []) ⟨hx, hb, hml, hown, ht⟩ (c_X8_fail_r l dC dI H.size h g ca (u2 iv 8 5 n2) lv fa la (IX_i (c := 8) (k := 5) hI (show inb (0, 200) n2 from ⟨by omega, by omega⟩)) 1 n2 ⟨by decide, by decide⟩ ⟨by omega, by omega⟩) (kV 2 ht m_757 m_759 m_21 m_82 m_760 rfl rfl hd_X8_fail_v ⟨Nat.le_of_ble_eq_true rfl, Nat.le_of_ble_eq_true rfl⟩) (vW hP hK hD (rX_8 hK hP)) rfl rfl hl.1 rfl (lv_room (Nat.le_of_ble_eq_true rfl)) dX8_readOneOf_83 ⟨Nat.le_of_ble_eq_true rfl, Nat.le_of_ble_eq_true rfl⟩) hS (fun q _ h => hFc q h) hFc (fun r133 u t H1 locs ht9 hvm hr133 hB hz1 hk1 hS => ?_)
                                                                                                                              obtain ⟨n134, n135, hn134, hn135, xr133_0, xr133_1, hr133, rfl⟩ := hr133
                                                                                                                              have hn134 : (-1) ≤ n134.toInt ∧ n134.toInt ≤ 200 := hn134
                                                                                                                              have hn135 : 0 ≤ n135.toInt ∧ n135.toInt ≤ 5 := hn135
                                                                                                                              obtain ⟨hP, hD⟩ := hB
                                                                                                                              rw [ht9] at hP
                                                                                                                              generalize H1 = H at hP hS ⊢
                                                                                                                              have hP : va_P (dC, dI) classes (WX h g ca (u2 (u2 (u2 iv 8 5 n2) 8 3 n134) 8 4 n135) lv fa la) H := hP
                                                                                                                              have hD : va_D A (WX h g ca (u2 (u2 (u2 iv 8 5 n2) 8 3 n134) 8 4 n135) lv fa la) := (show va_D _ (WX h g ca (u2 (u2 (u2 iv 8 5 n2) 8 3 n134) 8 4 n135) lv fa la) from hD).weaken (fun _ _ _ h => hFc _ h)
                                                                                                                              have : (1 : Int32).toInt = 1 := (by decide)
                                                                                                                              have xr133_0 : (n135 : Int32).toInt = (1 : Int32).toInt := xr133_0
                                                                                                                              have xr133_1 : (n134 : Int32).toInt = (n2 : Int32).toInt := xr133_1
                                                                                                                              refine lv_pop hx hb dX8_readOneOf_86 rfl ?_
                                                                                                                              refine lv_iconst (v := (-1)) hx hb dX8_readOneOf_87 (by decide) ?_
                                                                                                                              have : ((-1) : Int32).toInt = (-1) := (by decide)
                                                                                                                              have hP9 : va_P (dC, dI) classes (WX h g ca (u2 (u2 (u2 iv 8 3 n134) 8 4 n135) 8 5 n2) lv fa la) H := hP
                                                                                                                              have hD9 : va_D A (WX h g ca (u2 (u2 (u2 iv 8 3 n134) 8 4 n135) 8 5 n2) lv fa la) := hD
                                                                                                                              exact W.iret (v := (-1)) hx hb hr (fun t ht9 hW => ⟨⟨(-1), ((u2 (u2 (u2 iv 8 3 n134) 8 4 n135) 8 5 n2), lv, fa, la), rfl, ⟨n134, n135, n2, (show inb ((-1), 200) n134 from ⟨by omega, by omega⟩), (show inb (0, 5) n135 from ⟨by omega, by omega⟩), (show inb (0, 200) n2 from ⟨by omega, by omega⟩), (show ∃ s e : Int, Sk (fun j => ((fa 8 1) j).toInt) ((iv 8 2) : Int32).toInt (iv 8 5).toInt s ∧ Rn (fun j => ((fa 8 1) j).toInt) ((iv 8 2) : Int32).toInt 97 122 s e ∧ ((((-1) : Int32).toInt = -1 ∧ kwN (fun j => ((fa 8 1) j).toInt) s e = -1 ∧ (n135 : Int32).toInt = 1 ∧ (n134 : Int32).toInt = s) ∨ (0 ≤ ((-1) : Int32).toInt ∧ ((-1) : Int32).toInt = kwN (fun j => ((fa 8 1) j).toInt) s e ∧ (n135 : Int32).toInt = (iv 8 4).toInt ∧ (n134 : Int32).toInt = (iv 8 3).toInt ∧ (n2 : Int32).toInt = e)) from (by have g0 := ((cs_1_0 xr28_0).resolve_left (fun q => by omega)).2; have g1 := ((cs_1_6 xr59_0).resolve_left (fun q => by omega)).2; have g2 := ((cs_1_13 xr82_0).resolve_left (fun q => by omega)).2; have g3 := ((cs_1_18 xr109_0).resolve_left (fun q => by omega)).2; have g4 := ((cs_1_24 xr128_0).resolve_left (fun q => by omega)).2; exact ⟨_, _, xr1_0, xr3_0, Or.inl ⟨by omega, (by unfold kwN; rw [if_neg g0, if_neg g1, if_neg g2, if_neg g3, if_neg g4]), by omega, by omega⟩⟩)), ⟨by decide, by decide⟩, rfl⟩, by rw [ht9]; exact hP9, hD9⟩, hS.F ht9⟩) hS.2.2 dX8_readOneOf_88
                                                                                                                            · exact absurd c132 (by decide)
                                                                                                                          · have fc129 := z_ne (rfl : (r128).toInt = _) (by decide : (0 : Int32).toInt = 0) c129
                                                                                                                            refine lv_aload_n hx hb dX8_readOneOf_55 rfl (lv_at hl 4 rfl) ?_
                                                                                                                            refine lv_iload_n hx hb dX8_readOneOf_56 rfl (lv_at hl 3 rfl) ?_
                                                                                                                            refine pX_8_5 (v := r3) hx hb ht hown hK hP hD hS m_235 dX8_readOneOf_57 (fun H locs hP hD hS => ?_)
                                                                                                                            have hP : va_P (dC, dI) classes (WX h g ca (u2 iv 8 5 r3) lv fa la) H := hP
                                                                                                                            have hD : va_D A (WX h g ca (u2 iv 8 5 r3) lv fa la) := hD
                                                                                                                            refine lv_iload_n hx hb dX8_readOneOf_60 rfl (lv_at hl 2 rfl) ?_
                                                                                                                            have : (4 : Int32).toInt = 4 := (by decide)
                                                                                                                            have i_8_4 : 0 ≤ (iv 8 4).toInt ∧ (iv 8 4).toInt ≤ 5 := hI.1 8 4
                                                                                                                            have i_8_3 : (-1) ≤ (iv 8 3).toInt ∧ (iv 8 3).toInt ≤ 200 := hI.1 8 3
                                                                                                                            have hP9 : va_P (dC, dI) classes (WX h g ca (u2 (u2 (u2 iv 8 3 (iv 8 3)) 8 4 (iv 8 4)) 8 5 r3) lv fa la) H := hP
                                                                                                                            have hD9 : va_D A (WX h g ca (u2 (u2 (u2 iv 8 3 (iv 8 3)) 8 4 (iv 8 4)) 8 5 r3) lv fa la) := hD
                                                                                                                            exact W.iret (v := 4) hx hb hr (fun t ht9 hW => ⟨⟨4, ((u2 (u2 (u2 iv 8 3 (iv 8 3)) 8 4 (iv 8 4)) 8 5 r3), lv, fa, la), rfl, ⟨(iv 8 3), (iv 8 4), r3, (hI.1 8 3), (hI.1 8 4), (show inb (0, 200) r3 from ⟨by omega, by omega⟩), (show ∃ s e : Int, Sk (fun j => ((fa 8 1) j).toInt) ((iv 8 2) : Int32).toInt (iv 8 5).toInt s ∧ Rn (fun j => ((fa 8 1) j).toInt) ((iv 8 2) : Int32).toInt 97 122 s e ∧ (((4 : Int32).toInt = -1 ∧ kwN (fun j => ((fa 8 1) j).toInt) s e = -1 ∧ ((iv 8 4) : Int32).toInt = 1 ∧ ((iv 8 3) : Int32).toInt = s) ∨ (0 ≤ (4 : Int32).toInt ∧ (4 : Int32).toInt = kwN (fun j => ((fa 8 1) j).toInt) s e ∧ ((iv 8 4) : Int32).toInt = (iv 8 4).toInt ∧ ((iv 8 3) : Int32).toInt = (iv 8 3).toInt ∧ (r3 : Int32).toInt = e)) from (by have g0 := ((cs_1_0 xr28_0).resolve_left (fun q => by omega)).2; have g1 := ((cs_1_6 xr59_0).resolve_left (fun q => by omega)).2; have g2 := ((cs_1_13 xr82_0).resolve_left (fun q => by omega)).2; have g3 := ((cs_1_18 xr109_0).resolve_left (fun q => by omega)).2; have g4 := ((cs_1_24 xr128_0).resolve_right (fun q => by omega)).2; exact ⟨_, _, xr1_0, xr3_0, Or.inr ⟨by omega, (by unfold kwN; rw [if_neg g0, if_neg g1, if_neg g2, if_neg g3, if_pos g4]; omega), by omega, by omega, by omega⟩⟩)), ⟨by decide, by decide⟩, rfl⟩, by rw [ht9]; exact hP9, hD9⟩, hS.F ht9⟩) hS.2.2 dX8_readOneOf_61
                                                                                                                    · exact absurd c123 (by decide)
                                                                                                                · exact absurd c119 (by decide)
                                                                                                            · exact absurd c115 (by decide)
                                                                                                        · have fc110 := z_ne (rfl : (r109).toInt = _) (by decide : (0 : Int32).toInt = 0) c110
                                                                                                          refine lv_aload_n hx hb dX8_readOneOf_55 rfl (lv_at hl 4 rfl) ?_
                                                                                                          refine lv_iload_n hx hb dX8_readOneOf_56 rfl (lv_at hl 3 rfl) ?_
                                                                                                          refine pX_8_5 (v := r3) hx hb ht hown hK hP hD hS m_235 dX8_readOneOf_57 (fun H locs hP hD hS => ?_)
                                                                                                          have hP : va_P (dC, dI) classes (WX h g ca (u2 iv 8 5 r3) lv fa la) H := hP
                                                                                                          have hD : va_D A (WX h g ca (u2 iv 8 5 r3) lv fa la) := hD
                                                                                                          refine lv_iload_n hx hb dX8_readOneOf_60 rfl (lv_at hl 2 rfl) ?_
                                                                                                          have : (3 : Int32).toInt = 3 := (by decide)
                                                                                                          have i_8_4 : 0 ≤ (iv 8 4).toInt ∧ (iv 8 4).toInt ≤ 5 := hI.1 8 4
                                                                                                          have i_8_3 : (-1) ≤ (iv 8 3).toInt ∧ (iv 8 3).toInt ≤ 200 := hI.1 8 3
                                                                                                          have hP9 : va_P (dC, dI) classes (WX h g ca (u2 (u2 (u2 iv 8 3 (iv 8 3)) 8 4 (iv 8 4)) 8 5 r3) lv fa la) H := hP
                                                                                                          have hD9 : va_D A (WX h g ca (u2 (u2 (u2 iv 8 3 (iv 8 3)) 8 4 (iv 8 4)) 8 5 r3) lv fa la) := hD
                                                                                                          exact W.iret (v := 3) hx hb hr (fun t ht9 hW => ⟨⟨3, ((u2 (u2 (u2 iv 8 3 (iv 8 3)) 8 4 (iv 8 4)) 8 5 r3), lv, fa, la), rfl, ⟨(iv 8 3), (iv 8 4), r3, (hI.1 8 3), (hI.1 8 4), (show inb (0, 200) r3 from ⟨by omega, by omega⟩), (show ∃ s e : Int, Sk (fun j => ((fa 8 1) j).toInt) ((iv 8 2) : Int32).toInt (iv 8 5).toInt s ∧ Rn (fun j => ((fa 8 1) j).toInt) ((iv 8 2) : Int32).toInt 97 122 s e ∧ (((3 : Int32).toInt = -1 ∧ kwN (fun j => ((fa 8 1) j).toInt) s e = -1 ∧ ((iv 8 4) : Int32).toInt = 1 ∧ ((iv 8 3) : Int32).toInt = s) ∨ (0 ≤ (3 : Int32).toInt ∧ (3 : Int32).toInt = kwN (fun j => ((fa 8 1) j).toInt) s e ∧ ((iv 8 4) : Int32).toInt = (iv 8 4).toInt ∧ ((iv 8 3) : Int32).toInt = (iv 8 3).toInt ∧ (r3 : Int32).toInt = e)) from (by have g0 := ((cs_1_0 xr28_0).resolve_left (fun q => by omega)).2; have g1 := ((cs_1_6 xr59_0).resolve_left (fun q => by omega)).2; have g2 := ((cs_1_13 xr82_0).resolve_left (fun q => by omega)).2; have g3 := ((cs_1_18 xr109_0).resolve_right (fun q => by omega)).2; exact ⟨_, _, xr1_0, xr3_0, Or.inr ⟨by omega, (by unfold kwN; rw [if_neg g0, if_neg g1, if_neg g2, if_pos g3]; omega), by omega, by omega, by omega⟩⟩)), ⟨by decide, by decide⟩, rfl⟩, by rw [ht9]; exact hP9, hD9⟩, hS.F ht9⟩) hS.2.2 dX8_readOneOf_61
                                                                                                  · exact absurd c104 (by decide)
                                                                                              · exact absurd c100 (by decide)
                                                                                          · exact absurd c96 (by decide)
                                                                                      · exact absurd c92 (by decide)
                                                                                  · exact absurd c88 (by decide)
                                                                              · have fc83 := z_ne (rfl : (r82).toInt = _) (by decide : (0 : Int32).toInt = 0) c83
                                                                                refine lv_aload_n hx hb dX8_readOneOf_55 rfl (lv_at hl 4 rfl) ?_
                                                                                refine lv_iload_n hx hb dX8_readOneOf_56 rfl (lv_at hl 3 rfl) ?_
                                                                                refine pX_8_5 (v := r3) hx hb ht hown hK hP hD hS m_235 dX8_readOneOf_57 (fun H locs hP hD hS => ?_)
                                                                                have hP : va_P (dC, dI) classes (WX h g ca (u2 iv 8 5 r3) lv fa la) H := hP
                                                                                have hD : va_D A (WX h g ca (u2 iv 8 5 r3) lv fa la) := hD
                                                                                refine lv_iload_n hx hb dX8_readOneOf_60 rfl (lv_at hl 2 rfl) ?_
                                                                                have : (2 : Int32).toInt = 2 := (by decide)
                                                                                have i_8_4 : 0 ≤ (iv 8 4).toInt ∧ (iv 8 4).toInt ≤ 5 := hI.1 8 4
                                                                                have i_8_3 : (-1) ≤ (iv 8 3).toInt ∧ (iv 8 3).toInt ≤ 200 := hI.1 8 3
                                                                                have hP9 : va_P (dC, dI) classes (WX h g ca (u2 (u2 (u2 iv 8 3 (iv 8 3)) 8 4 (iv 8 4)) 8 5 r3) lv fa la) H := hP
                                                                                have hD9 : va_D A (WX h g ca (u2 (u2 (u2 iv 8 3 (iv 8 3)) 8 4 (iv 8 4)) 8 5 r3) lv fa la) := hD
                                                                                exact W.iret (v := 2) hx hb hr (fun t ht9 hW => ⟨⟨2, ((u2 (u2 (u2 iv 8 3 (iv 8 3)) 8 4 (iv 8 4)) 8 5 r3), lv, fa, la), rfl, ⟨(iv 8 3), (iv 8 4), r3, (hI.1 8 3), (hI.1 8 4), (show inb (0, 200) r3 from ⟨by omega, by omega⟩), (show ∃ s e : Int, Sk (fun j => ((fa 8 1) j).toInt) ((iv 8 2) : Int32).toInt (iv 8 5).toInt s ∧ Rn (fun j => ((fa 8 1) j).toInt) ((iv 8 2) : Int32).toInt 97 122 s e ∧ (((2 : Int32).toInt = -1 ∧ kwN (fun j => ((fa 8 1) j).toInt) s e = -1 ∧ ((iv 8 4) : Int32).toInt = 1 ∧ ((iv 8 3) : Int32).toInt = s) ∨ (0 ≤ (2 : Int32).toInt ∧ (2 : Int32).toInt = kwN (fun j => ((fa 8 1) j).toInt) s e ∧ ((iv 8 4) : Int32).toInt = (iv 8 4).toInt ∧ ((iv 8 3) : Int32).toInt = (iv 8 3).toInt ∧ (r3 : Int32).toInt = e)) from (by have g0 := ((cs_1_0 xr28_0).resolve_left (fun q => by omega)).2; have g1 := ((cs_1_6 xr59_0).resolve_left (fun q => by omega)).2; have g2 := ((cs_1_13 xr82_0).resolve_right (fun q => by omega)).2; exact ⟨_, _, xr1_0, xr3_0, Or.inr ⟨by omega, (by unfold kwN; rw [if_neg g0, if_neg g1, if_pos g2]; omega), by omega, by omega, by omega⟩⟩)), ⟨by decide, by decide⟩, rfl⟩, by rw [ht9]; exact hP9, hD9⟩, hS.F ht9⟩) hS.2.2 dX8_readOneOf_61
                                                                        · exact absurd c77 (by decide)
                                                                    · exact absurd c73 (by decide)
                                                                · exact absurd c69 (by decide)
                                                            · exact absurd c65 (by decide)
                                                        · have fc60 := z_ne (rfl : (r59).toInt = _) (by decide : (0 : Int32).toInt = 0) c60
                                                          refine lv_aload_n hx hb dX8_readOneOf_55 rfl (lv_at hl 4 rfl) ?_
                                                          refine lv_iload_n hx hb dX8_readOneOf_56 rfl (lv_at hl 3 rfl) ?_
                                                          refine pX_8_5 (v := r3) hx hb ht hown hK hP hD hS m_235 dX8_readOneOf_57 (fun H locs hP hD hS => ?_)
                                                          have hP : va_P (dC, dI) classes (WX h g ca (u2 iv 8 5 r3) lv fa la) H := hP
                                                          have hD : va_D A (WX h g ca (u2 iv 8 5 r3) lv fa la) := hD
                                                          refine lv_iload_n hx hb dX8_readOneOf_60 rfl (lv_at hl 2 rfl) ?_
                                                          have : (1 : Int32).toInt = 1 := (by decide)
                                                          have i_8_4 : 0 ≤ (iv 8 4).toInt ∧ (iv 8 4).toInt ≤ 5 := hI.1 8 4
                                                          have i_8_3 : (-1) ≤ (iv 8 3).toInt ∧ (iv 8 3).toInt ≤ 200 := hI.1 8 3
                                                          have hP9 : va_P (dC, dI) classes (WX h g ca (u2 (u2 (u2 iv 8 3 (iv 8 3)) 8 4 (iv 8 4)) 8 5 r3) lv fa la) H := hP
                                                          have hD9 : va_D A (WX h g ca (u2 (u2 (u2 iv 8 3 (iv 8 3)) 8 4 (iv 8 4)) 8 5 r3) lv fa la) := hD
                                                          exact W.iret (v := 1) hx hb hr (fun t ht9 hW => ⟨⟨1, ((u2 (u2 (u2 iv 8 3 (iv 8 3)) 8 4 (iv 8 4)) 8 5 r3), lv, fa, la), rfl, ⟨(iv 8 3), (iv 8 4), r3, (hI.1 8 3), (hI.1 8 4), (show inb (0, 200) r3 from ⟨by omega, by omega⟩), (show ∃ s e : Int, Sk (fun j => ((fa 8 1) j).toInt) ((iv 8 2) : Int32).toInt (iv 8 5).toInt s ∧ Rn (fun j => ((fa 8 1) j).toInt) ((iv 8 2) : Int32).toInt 97 122 s e ∧ (((1 : Int32).toInt = -1 ∧ kwN (fun j => ((fa 8 1) j).toInt) s e = -1 ∧ ((iv 8 4) : Int32).toInt = 1 ∧ ((iv 8 3) : Int32).toInt = s) ∨ (0 ≤ (1 : Int32).toInt ∧ (1 : Int32).toInt = kwN (fun j => ((fa 8 1) j).toInt) s e ∧ ((iv 8 4) : Int32).toInt = (iv 8 4).toInt ∧ ((iv 8 3) : Int32).toInt = (iv 8 3).toInt ∧ (r3 : Int32).toInt = e)) from (by have g0 := ((cs_1_0 xr28_0).resolve_left (fun q => by omega)).2; have g1 := ((cs_1_6 xr59_0).resolve_right (fun q => by omega)).2; exact ⟨_, _, xr1_0, xr3_0, Or.inr ⟨by omega, (by unfold kwN; rw [if_neg g0, if_pos g1]; omega), by omega, by omega, by omega⟩⟩)), ⟨by decide, by decide⟩, rfl⟩, by rw [ht9]; exact hP9, hD9⟩, hS.F ht9⟩) hS.2.2 dX8_readOneOf_61
                                                  · exact absurd c54 (by decide)
                                              · exact absurd c50 (by decide)
                                          · exact absurd c46 (by decide)
                                      · exact absurd c42 (by decide)
                                  · exact absurd c38 (by decide)
                              · exact absurd c34 (by decide)
                          · have fc29 := z_ne (rfl : (r28).toInt = _) (by decide : (0 : Int32).toInt = 0) c29
                            refine lv_aload_n hx hb dX8_readOneOf_55 rfl (lv_at hl 4 rfl) ?_
                            refine lv_iload_n hx hb dX8_readOneOf_56 rfl (lv_at hl 3 rfl) ?_
                            refine pX_8_5 (v := r3) hx hb ht hown hK hP hD hS m_235 dX8_readOneOf_57 (fun H locs hP hD hS => ?_)
                            have hP : va_P (dC, dI) classes (WX h g ca (u2 iv 8 5 r3) lv fa la) H := hP
                            have hD : va_D A (WX h g ca (u2 iv 8 5 r3) lv fa la) := hD
                            refine lv_iload_n hx hb dX8_readOneOf_60 rfl (lv_at hl 2 rfl) ?_
                            have i_8_4 : 0 ≤ (iv 8 4).toInt ∧ (iv 8 4).toInt ≤ 5 := hI.1 8 4
                            have i_8_3 : (-1) ≤ (iv 8 3).toInt ∧ (iv 8 3).toInt ≤ 200 := hI.1 8 3
                            have hP9 : va_P (dC, dI) classes (WX h g ca (u2 (u2 (u2 iv 8 3 (iv 8 3)) 8 4 (iv 8 4)) 8 5 r3) lv fa la) H := hP
                            have hD9 : va_D A (WX h g ca (u2 (u2 (u2 iv 8 3 (iv 8 3)) 8 4 (iv 8 4)) 8 5 r3) lv fa la) := hD
                            exact W.iret (v := 0) hx hb hr (fun t ht9 hW => ⟨⟨0, ((u2 (u2 (u2 iv 8 3 (iv 8 3)) 8 4 (iv 8 4)) 8 5 r3), lv, fa, la), rfl, ⟨(iv 8 3), (iv 8 4), r3, (hI.1 8 3), (hI.1 8 4), (show inb (0, 200) r3 from ⟨by omega, by omega⟩), (show ∃ s e : Int, Sk (fun j => ((fa 8 1) j).toInt) ((iv 8 2) : Int32).toInt (iv 8 5).toInt s ∧ Rn (fun j => ((fa 8 1) j).toInt) ((iv 8 2) : Int32).toInt 97 122 s e ∧ (((0 : Int32).toInt = -1 ∧ kwN (fun j => ((fa 8 1) j).toInt) s e = -1 ∧ ((iv 8 4) : Int32).toInt = 1 ∧ ((iv 8 3) : Int32).toInt = s) ∨ (0 ≤ (0 : Int32).toInt ∧ (0 : Int32).toInt = kwN (fun j => ((fa 8 1) j).toInt) s e ∧ ((iv 8 4) : Int32).toInt = (iv 8 4).toInt ∧ ((iv 8 3) : Int32).toInt = (iv 8 3).toInt ∧ (r3 : Int32).toInt = e)) from (by have g0 := ((cs_1_0 xr28_0).resolve_right (fun q => by omega)).2; exact ⟨_, _, xr1_0, xr3_0, Or.inr ⟨by omega, (by unfold kwN; rw [if_pos g0]; omega), by omega, by omega, by omega⟩⟩)), ⟨by decide, by decide⟩, rfl⟩, by rw [ht9]; exact hP9, hD9⟩, hS.F ht9⟩) hS.2.2 dX8_readOneOf_61
                    · exact absurd c23 (by decide)
                · exact absurd c19 (by decide)
            · exact absurd c15 (by decide)
        · exact absurd c11 (by decide)
    · exact absurd c7 (by decide)
set_option maxHeartbeats 4000000 in
set_option maxRecDepth 100000 in
/-- X8_readOneOf -/
theorem c_X8_readOneOf_r2 (l : Launch) (dC : Nat → ClassId) (dI : Nat → Nat → Nat) (sz : Nat) (ak av : Nat → Nat) (h : Nat) (g : Nat → Nat → Nat) (ca : Nat → Nat → ClassId) (iv : Nat → Nat → Int32) (lv : Nat → Nat → Int64) (fa : Nat → Nat → Nat → Int32) (la : Nat → Nat → Nat → Int64) (hI : IX iv fa) : Met l yX8_readOneOf (wc yX8_readOneOf cX8_readOneOf 6 (some .int)) ({ frames := 5, cells := 0, slots := 0, locals := 110 } : Room) (pWZ ak av (dC, dI) classes (WX h g ca iv lv fa la) (TX ca) sz [.ref (g 11 4), .ref (ak 2)]) (va_Qi (fun r (u : SS) => ∃ (ni_8_3 : Int32) (ni_8_4 : Int32) (ni_8_5 : Int32), inb (bI 8 3) ni_8_3 ∧ inb (bI 8 4) ni_8_4 ∧ inb (bI 8 5) ni_8_5 ∧ (∃ s e : Int, Sk (fun j => ((fa 8 1) j).toInt) (iv 8 2).toInt (iv 8 5).toInt s ∧ Rn (fun j => ((fa 8 1) j).toInt) (iv 8 2).toInt 97 122 s e ∧ ((r.toInt = -1 ∧ kwW (fun j => ((fa 8 1) j).toInt) s e = -1 ∧ (ni_8_4).toInt = 1 ∧ (ni_8_3).toInt = s) ∨ (0 ≤ r.toInt ∧ r.toInt = kwW (fun j => ((fa 8 1) j).toInt) s e ∧ (ni_8_4).toInt = (iv 8 4).toInt ∧ (ni_8_3).toInt = (iv 8 3).toInt ∧ (ni_8_5).toInt = e))) ∧ ((-1) ≤ r.toInt ∧ r.toInt ≤ 2) ∧ u = ((u2 (u2 (u2 iv 8 3 ni_8_3) 8 4 ni_8_4) 8 5 ni_8_5), lv, fa, la)) (bX (dC, dI) h g ca (va_A (WX h g ca iv lv fa la) sz)) (va_A (WX h g ca iv lv fa la) sz)) 0 0 (va_A (WX h g ca iv lv fa la) sz) := by
  refine Met.ofW (cc := cX8_readOneOf) (maxL := 6) (ret := (some .int)) (by decide) rfl ?_
  intro p e s m args below meth c s₁ B hml hv
  obtain ⟨rfl, hsz, hP, hK, hD0, hZ⟩ := hv
  have hx := B.exec
  have hb := B.bytes
  have hr := B.returns
  have ht := tb_tl (atoms_spec (ws := wc yX8_readOneOf cX8_readOneOf 6 (some .int)) B.pre)
  have hown : s.vm.findClass RX8 = some m.cls := findClass_of_methodNamed B.named
  have hlocks := B.notSynchronized
  subst hsz
  have hD := hD0.self (sz := s.heap.size)
  generalize hAe : va_A (WX h g ca iv lv fa la) s.heap.size = A at hD hZ ⊢
  have hA : ∀ q : Nat, s.heap.size ≤ q → A q := fun q h => by rw [← hAe]; exact Or.inr h
  have hS : va_S A s.heap s.heap [] := va_S.rf
  have hl := lv_entry [.ref (g 11 4), .ref (ak 2)] (n := 6) (Nat.le_of_ble_eq_true rfl)
  rw [lg_entry_eq]
  generalize (lg_sl [.ref (g 11 4), .ref (ak 2)] ++ List.replicate (6 - (lg_sl [.ref (g 11 4), .ref (ak 2)]).length) Slot.unset).toArray = ls at hl ⊢
  have hl : lv_has ls 6 [(0, .ref (g 11 4)), (1, .ref (ak 2))] := hl
  refine lv_aload_n hx hb dX8_readOneOf_0 rfl (lv_at hl 0 rfl) ?_
  have i_8_5 : 0 ≤ (iv 8 5).toInt ∧ (iv 8 5).toInt ≤ 200 := hI.1 8 5
  have hFc := free_all hD hS hA
  refine va_calli (va_runV (As := []) (rest := []) ⟨hx, hb, hml, hown, ht⟩ (c_X8_skipBlanks_r l dC dI s.heap.size h g ca iv lv fa la hI) (kV 0 ht m_688 m_690 m_16 m_82 m_691 rfl rfl hd_X8_skipBlanks_v ⟨Nat.le_of_ble_eq_true rfl, Nat.le_of_ble_eq_true rfl⟩) (vW hP hK hD (rX_8 hK hP)) rfl rfl hl.1 rfl (lv_room (Nat.le_of_ble_eq_true rfl)) dX8_readOneOf_1 ⟨Nat.le_of_ble_eq_true rfl, Nat.le_of_ble_eq_true rfl⟩) hS (fun q _ h => hFc q h) hFc (fun r1 u t H1 locs ht9 hvm hr1 hB hz1 hk1 hS => ?_)
  obtain ⟨n2, hn2, xr1_0, xr1_1, hr1, rfl⟩ := hr1
  have hn2 : 0 ≤ n2.toInt ∧ n2.toInt ≤ 200 := hn2
  obtain ⟨hP, hD⟩ := hB
  rw [ht9] at hP
  generalize H1 = H at hP hS ⊢
  have hP : va_P (dC, dI) classes (WX h g ca (u2 iv 8 5 n2) lv fa la) H := hP
  have hD : va_D A (WX h g ca (u2 iv 8 5 n2) lv fa la) := (show va_D _ (WX h g ca (u2 iv 8 5 n2) lv fa la) from hD).weaken (fun _ _ _ h => hFc _ h)
  have i_8_2 : 0 ≤ (iv 8 2).toInt ∧ (iv 8 2).toInt ≤ 200 := hI.1 8 2
  have xr1_0 : Sk (fun j => ((fa 8 1) j).toInt) ((iv 8 2) : Int32).toInt ((iv 8 5) : Int32).toInt (n2 : Int32).toInt := xr1_0
  have xr1_1 : (((r1 : Int32).toInt = 1 ∧ (n2 : Int32).toInt < ((iv 8 2) : Int32).toInt) ∨ ((r1 : Int32).toInt = 0 ∧ ((iv 8 2) : Int32).toInt ≤ (n2 : Int32).toInt)) := xr1_1
  refine lv_pop hx hb dX8_readOneOf_4 rfl ?_
  refine lv_aload_n hx hb dX8_readOneOf_5 rfl (lv_at hl 0 rfl) ?_
  refine lv_bipush (v := 97) hx hb dX8_readOneOf_6 (by decide) ?_
  refine lv_bipush (v := 122) hx hb dX8_readOneOf_8 (by decide) ?_
  refine vp_callSi (W.runV (As := [.int 97, .int 122]) (rest := []) ⟨hx, hb, hml, hown, ht⟩ (c_X8_endOfRun_r97 l dC dI h g ca (u2 iv 8 5 n2) lv fa la (IX_i (c := 8) (k := 5) hI (show inb (0, 200) n2 from ⟨by omega, by omega⟩))) (kV 2 ht m_701 m_703 m_19 m_82 m_704 rfl rfl hd_X8_endOfRun_v ⟨Nat.le_of_ble_eq_true rfl, Nat.le_of_ble_eq_true rfl⟩) (vR hP hK (rX_8 hK hP)) rfl rfl hl.1 rfl (lv_room (Nat.le_of_ble_eq_true rfl)) dX8_readOneOf_10 ⟨Nat.le_of_ble_eq_true rfl, Nat.le_of_ble_eq_true rfl⟩) (fun r3 hr3 => ?_)
  obtain ⟨hr3, xr3_0, xr3_1⟩ := hr3
  have xr3_0 : Rn (fun j => ((fa 8 1) j).toInt) ((iv 8 2) : Int32).toInt 97 122 (n2 : Int32).toInt (r3 : Int32).toInt := xr3_0
  have xr3_1 : (n2 : Int32).toInt ≤ (r3 : Int32).toInt := xr3_1
  refine lv_istore_n (lv' := [(2, .int r3), (0, .ref (g 11 4)), (1, .ref (ak 2))]) hx hb dX8_readOneOf_13 rfl hl (by decide) rfl (fun ls hl => ?_)
  refine lv_iconst (v := 0) hx hb dX8_readOneOf_14 (by decide) ?_
  refine lv_istore_n (lv' := [(3, .int 0), (2, .int r3), (0, .ref (g 11 4)), (1, .ref (ak 2))]) hx hb dX8_readOneOf_15 rfl hl (by decide) rfl (fun ls hl => ?_)
  refine lv_iconst (v := 0) hx hb dX8_readOneOf_16 (by decide) ?_
  refine lv_istore (lv' := [(4, .int 0), (3, .int 0), (2, .int r3), (0, .ref (g 11 4)), (1, .ref (ak 2))]) hx hb dX8_readOneOf_17 hl (by decide) rfl (fun ls hl => ?_)
  refine lv_iconst (v := 0) hx hb dX8_readOneOf_19 (by decide) ?_
  refine lv_istore (lv' := [(5, .int 0), (4, .int 0), (3, .int 0), (2, .int r3), (0, .ref (g 11 4)), (1, .ref (ak 2))]) hx hb dX8_readOneOf_20 hl (by decide) rfl (fun ls hl => ?_)
  refine lv_iload hx hb dX8_readOneOf_22 (lv_at hl 0 rfl) ?_
  refine lv_aload_n hx hb dX8_readOneOf_24 rfl (lv_at hl 5 rfl) ?_
  refine vp_callSi (W.runV (As := []) (rest := [.int 0]) ⟨hx, hb, hml, hown, ht⟩ (c_J0_length_8abf5_2 l dC dI ak av) (kV 0 ht m_705 m_706 m_707 m_91 m_708 rfl rfl hd_J0_length_8abf5_v ⟨Nat.le_of_ble_eq_true rfl, Nat.le_of_ble_eq_true rfl⟩) (vRZ noP (hK.sub (tys' := []) [] rfl) ((hZ.kept hS.2.1).narrow (fun _ h => h.elim)) (vk_recv hZ.1.2.2.2.2.2 (i := 2) (by decide) hS)) rfl rfl hl.1 rfl (lv_room (Nat.le_of_ble_eq_true rfl)) dX8_readOneOf_25 ⟨Nat.le_of_ble_eq_true rfl, Nat.le_of_ble_eq_true rfl⟩) (fun r4 hr4 => ?_)
  obtain rfl : 18 = r4 := hr4.symm
  refine lv_icmp_ge (tgt := 77) hx hb dX8_readOneOf_28 (by decide) (fun c5 => ?_) (fun c5 => ?_)
  · exact absurd c5 (by decide)
  · skip
    refine lv_aload_n hx hb dX8_readOneOf_31 rfl (lv_at hl 5 rfl) ?_
    refine lv_iload hx hb dX8_readOneOf_32 (lv_at hl 0 rfl) ?_
    refine vp_callSi (W.runV (As := [.int 0]) (rest := []) ⟨hx, hb, hml, hown, ht⟩ (c_J0_charAt_5068e_2 l dC dI ak av 0 ⟨by decide, by decide⟩) (kV 1 ht m_715 m_716 m_717 m_91 m_718 rfl rfl hd_J0_charAt_5068e_v ⟨Nat.le_of_ble_eq_true rfl, Nat.le_of_ble_eq_true rfl⟩) (vRZ noP (hK.sub (tys' := []) [] rfl) ((hZ.kept hS.2.1).narrow (fun _ h => h.elim)) (vk_recv hZ.1.2.2.2.2.2 (i := 2) (by decide) hS)) rfl rfl hl.1 rfl (lv_room (Nat.le_of_ble_eq_true rfl)) dX8_readOneOf_34 ⟨Nat.le_of_ble_eq_true rfl, Nat.le_of_ble_eq_true rfl⟩) (fun r6 hr6 => ?_)
    obtain rfl : 109 = r6 := (hr6.trans (by decide)).symm
    refine lv_bipush (v := 32) hx hb dX8_readOneOf_37 (by decide) ?_
    refine lv_icmp_ne (tgt := 71) hx hb dX8_readOneOf_39 (by decide) (fun c7 => ?_) (fun c7 => ?_)
    · skip
      refine lv_iinc (v := 1) (lv' := [(5, .int 1), (4, .int 0), (3, .int 0), (2, .int r3), (0, .ref (g 11 4)), (1, .ref (ak 2))]) hx hb dX8_readOneOf_71 hl (k := 0) rfl (by decide) (by decide) rfl (fun ls hl => ?_)
      refine lv_goto (tgt := 22) hx hb dX8_readOneOf_74 (by decide) ?_
      refine lv_iload hx hb dX8_readOneOf_22 (lv_at hl 0 rfl) ?_
      refine lv_aload_n hx hb dX8_readOneOf_24 rfl (lv_at hl 5 rfl) ?_
      refine vp_callSi (W.runV (As := []) (rest := [.int 1]) ⟨hx, hb, hml, hown, ht⟩ (c_J0_length_8abf5_2 l dC dI ak av) (kV 0 ht m_705 m_706 m_707 m_91 m_708 rfl rfl hd_J0_length_8abf5_v ⟨Nat.le_of_ble_eq_true rfl, Nat.le_of_ble_eq_true rfl⟩) (vRZ noP (hK.sub (tys' := []) [] rfl) ((hZ.kept hS.2.1).narrow (fun _ h => h.elim)) (vk_recv hZ.1.2.2.2.2.2 (i := 2) (by decide) hS)) rfl rfl hl.1 rfl (lv_room (Nat.le_of_ble_eq_true rfl)) dX8_readOneOf_25 ⟨Nat.le_of_ble_eq_true rfl, Nat.le_of_ble_eq_true rfl⟩) (fun r8 hr8 => ?_)
      obtain rfl : 18 = r8 := hr8.symm
      refine lv_icmp_ge (tgt := 77) hx hb dX8_readOneOf_28 (by decide) (fun c9 => ?_) (fun c9 => ?_)
      · exact absurd c9 (by decide)
      · skip
        refine lv_aload_n hx hb dX8_readOneOf_31 rfl (lv_at hl 5 rfl) ?_
        refine lv_iload hx hb dX8_readOneOf_32 (lv_at hl 0 rfl) ?_
        refine vp_callSi (W.runV (As := [.int 1]) (rest := []) ⟨hx, hb, hml, hown, ht⟩ (c_J0_charAt_5068e_2 l dC dI ak av 1 ⟨by decide, by decide⟩) (kV 1 ht m_715 m_716 m_717 m_91 m_718 rfl rfl hd_J0_charAt_5068e_v ⟨Nat.le_of_ble_eq_true rfl, Nat.le_of_ble_eq_true rfl⟩) (vRZ noP (hK.sub (tys' := []) [] rfl) ((hZ.kept hS.2.1).narrow (fun _ h => h.elim)) (vk_recv hZ.1.2.2.2.2.2 (i := 2) (by decide) hS)) rfl rfl hl.1 rfl (lv_room (Nat.le_of_ble_eq_true rfl)) dX8_readOneOf_34 ⟨Nat.le_of_ble_eq_true rfl, Nat.le_of_ble_eq_true rfl⟩) (fun r10 hr10 => ?_)
        obtain rfl : 101 = r10 := (hr10.trans (by decide)).symm
        refine lv_bipush (v := 32) hx hb dX8_readOneOf_37 (by decide) ?_
        refine lv_icmp_ne (tgt := 71) hx hb dX8_readOneOf_39 (by decide) (fun c11 => ?_) (fun c11 => ?_)
        · skip
          refine lv_iinc (v := 2) (lv' := [(5, .int 2), (4, .int 0), (3, .int 0), (2, .int r3), (0, .ref (g 11 4)), (1, .ref (ak 2))]) hx hb dX8_readOneOf_71 hl (k := 0) rfl (by decide) (by decide) rfl (fun ls hl => ?_)
          refine lv_goto (tgt := 22) hx hb dX8_readOneOf_74 (by decide) ?_
          refine lv_iload hx hb dX8_readOneOf_22 (lv_at hl 0 rfl) ?_
          refine lv_aload_n hx hb dX8_readOneOf_24 rfl (lv_at hl 5 rfl) ?_
          refine vp_callSi (W.runV (As := []) (rest := [.int 2]) ⟨hx, hb, hml, hown, ht⟩ (c_J0_length_8abf5_2 l dC dI ak av) (kV 0 ht m_705 m_706 m_707 m_91 m_708 rfl rfl hd_J0_length_8abf5_v ⟨Nat.le_of_ble_eq_true rfl, Nat.le_of_ble_eq_true rfl⟩) (vRZ noP (hK.sub (tys' := []) [] rfl) ((hZ.kept hS.2.1).narrow (fun _ h => h.elim)) (vk_recv hZ.1.2.2.2.2.2 (i := 2) (by decide) hS)) rfl rfl hl.1 rfl (lv_room (Nat.le_of_ble_eq_true rfl)) dX8_readOneOf_25 ⟨Nat.le_of_ble_eq_true rfl, Nat.le_of_ble_eq_true rfl⟩) (fun r12 hr12 => ?_)
          obtain rfl : 18 = r12 := hr12.symm
          refine lv_icmp_ge (tgt := 77) hx hb dX8_readOneOf_28 (by decide) (fun c13 => ?_) (fun c13 => ?_)
          · exact absurd c13 (by decide)
          · skip
            refine lv_aload_n hx hb dX8_readOneOf_31 rfl (lv_at hl 5 rfl) ?_
            refine lv_iload hx hb dX8_readOneOf_32 (lv_at hl 0 rfl) ?_
            refine vp_callSi (W.runV (As := [.int 2]) (rest := []) ⟨hx, hb, hml, hown, ht⟩ (c_J0_charAt_5068e_2 l dC dI ak av 2 ⟨by decide, by decide⟩) (kV 1 ht m_715 m_716 m_717 m_91 m_718 rfl rfl hd_J0_charAt_5068e_v ⟨Nat.le_of_ble_eq_true rfl, Nat.le_of_ble_eq_true rfl⟩) (vRZ noP (hK.sub (tys' := []) [] rfl) ((hZ.kept hS.2.1).narrow (fun _ h => h.elim)) (vk_recv hZ.1.2.2.2.2.2 (i := 2) (by decide) hS)) rfl rfl hl.1 rfl (lv_room (Nat.le_of_ble_eq_true rfl)) dX8_readOneOf_34 ⟨Nat.le_of_ble_eq_true rfl, Nat.le_of_ble_eq_true rfl⟩) (fun r14 hr14 => ?_)
            obtain rfl : 97 = r14 := (hr14.trans (by decide)).symm
            refine lv_bipush (v := 32) hx hb dX8_readOneOf_37 (by decide) ?_
            refine lv_icmp_ne (tgt := 71) hx hb dX8_readOneOf_39 (by decide) (fun c15 => ?_) (fun c15 => ?_)
            · skip
              refine lv_iinc (v := 3) (lv' := [(5, .int 3), (4, .int 0), (3, .int 0), (2, .int r3), (0, .ref (g 11 4)), (1, .ref (ak 2))]) hx hb dX8_readOneOf_71 hl (k := 0) rfl (by decide) (by decide) rfl (fun ls hl => ?_)
              refine lv_goto (tgt := 22) hx hb dX8_readOneOf_74 (by decide) ?_
              refine lv_iload hx hb dX8_readOneOf_22 (lv_at hl 0 rfl) ?_
              refine lv_aload_n hx hb dX8_readOneOf_24 rfl (lv_at hl 5 rfl) ?_
              refine vp_callSi (W.runV (As := []) (rest := [.int 3]) ⟨hx, hb, hml, hown, ht⟩ (c_J0_length_8abf5_2 l dC dI ak av) (kV 0 ht m_705 m_706 m_707 m_91 m_708 rfl rfl hd_J0_length_8abf5_v ⟨Nat.le_of_ble_eq_true rfl, Nat.le_of_ble_eq_true rfl⟩) (vRZ noP (hK.sub (tys' := []) [] rfl) ((hZ.kept hS.2.1).narrow (fun _ h => h.elim)) (vk_recv hZ.1.2.2.2.2.2 (i := 2) (by decide) hS)) rfl rfl hl.1 rfl (lv_room (Nat.le_of_ble_eq_true rfl)) dX8_readOneOf_25 ⟨Nat.le_of_ble_eq_true rfl, Nat.le_of_ble_eq_true rfl⟩) (fun r16 hr16 => ?_)
              obtain rfl : 18 = r16 := hr16.symm
              refine lv_icmp_ge (tgt := 77) hx hb dX8_readOneOf_28 (by decide) (fun c17 => ?_) (fun c17 => ?_)
              · exact absurd c17 (by decide)
              · skip
                refine lv_aload_n hx hb dX8_readOneOf_31 rfl (lv_at hl 5 rfl) ?_
                refine lv_iload hx hb dX8_readOneOf_32 (lv_at hl 0 rfl) ?_
                refine vp_callSi (W.runV (As := [.int 3]) (rest := []) ⟨hx, hb, hml, hown, ht⟩ (c_J0_charAt_5068e_2 l dC dI ak av 3 ⟨by decide, by decide⟩) (kV 1 ht m_715 m_716 m_717 m_91 m_718 rfl rfl hd_J0_charAt_5068e_v ⟨Nat.le_of_ble_eq_true rfl, Nat.le_of_ble_eq_true rfl⟩) (vRZ noP (hK.sub (tys' := []) [] rfl) ((hZ.kept hS.2.1).narrow (fun _ h => h.elim)) (vk_recv hZ.1.2.2.2.2.2 (i := 2) (by decide) hS)) rfl rfl hl.1 rfl (lv_room (Nat.le_of_ble_eq_true rfl)) dX8_readOneOf_34 ⟨Nat.le_of_ble_eq_true rfl, Nat.le_of_ble_eq_true rfl⟩) (fun r18 hr18 => ?_)
                obtain rfl : 110 = r18 := (hr18.trans (by decide)).symm
                refine lv_bipush (v := 32) hx hb dX8_readOneOf_37 (by decide) ?_
                refine lv_icmp_ne (tgt := 71) hx hb dX8_readOneOf_39 (by decide) (fun c19 => ?_) (fun c19 => ?_)
                · skip
                  refine lv_iinc (v := 4) (lv' := [(5, .int 4), (4, .int 0), (3, .int 0), (2, .int r3), (0, .ref (g 11 4)), (1, .ref (ak 2))]) hx hb dX8_readOneOf_71 hl (k := 0) rfl (by decide) (by decide) rfl (fun ls hl => ?_)
                  refine lv_goto (tgt := 22) hx hb dX8_readOneOf_74 (by decide) ?_
                  refine lv_iload hx hb dX8_readOneOf_22 (lv_at hl 0 rfl) ?_
                  refine lv_aload_n hx hb dX8_readOneOf_24 rfl (lv_at hl 5 rfl) ?_
                  refine vp_callSi (W.runV (As := []) (rest := [.int 4]) ⟨hx, hb, hml, hown, ht⟩ (c_J0_length_8abf5_2 l dC dI ak av) (kV 0 ht m_705 m_706 m_707 m_91 m_708 rfl rfl hd_J0_length_8abf5_v ⟨Nat.le_of_ble_eq_true rfl, Nat.le_of_ble_eq_true rfl⟩) (vRZ noP (hK.sub (tys' := []) [] rfl) ((hZ.kept hS.2.1).narrow (fun _ h => h.elim)) (vk_recv hZ.1.2.2.2.2.2 (i := 2) (by decide) hS)) rfl rfl hl.1 rfl (lv_room (Nat.le_of_ble_eq_true rfl)) dX8_readOneOf_25 ⟨Nat.le_of_ble_eq_true rfl, Nat.le_of_ble_eq_true rfl⟩) (fun r20 hr20 => ?_)
                  obtain rfl : 18 = r20 := hr20.symm
                  refine lv_icmp_ge (tgt := 77) hx hb dX8_readOneOf_28 (by decide) (fun c21 => ?_) (fun c21 => ?_)
                  · exact absurd c21 (by decide)
                  · skip
                    refine lv_aload_n hx hb dX8_readOneOf_31 rfl (lv_at hl 5 rfl) ?_
                    refine lv_iload hx hb dX8_readOneOf_32 (lv_at hl 0 rfl) ?_
                    refine vp_callSi (W.runV (As := [.int 4]) (rest := []) ⟨hx, hb, hml, hown, ht⟩ (c_J0_charAt_5068e_2 l dC dI ak av 4 ⟨by decide, by decide⟩) (kV 1 ht m_715 m_716 m_717 m_91 m_718 rfl rfl hd_J0_charAt_5068e_v ⟨Nat.le_of_ble_eq_true rfl, Nat.le_of_ble_eq_true rfl⟩) (vRZ noP (hK.sub (tys' := []) [] rfl) ((hZ.kept hS.2.1).narrow (fun _ h => h.elim)) (vk_recv hZ.1.2.2.2.2.2 (i := 2) (by decide) hS)) rfl rfl hl.1 rfl (lv_room (Nat.le_of_ble_eq_true rfl)) dX8_readOneOf_34 ⟨Nat.le_of_ble_eq_true rfl, Nat.le_of_ble_eq_true rfl⟩) (fun r22 hr22 => ?_)
                    obtain rfl : 32 = r22 := (hr22.trans (by decide)).symm
                    refine lv_bipush (v := 32) hx hb dX8_readOneOf_37 (by decide) ?_
                    refine lv_icmp_ne (tgt := 71) hx hb dX8_readOneOf_39 (by decide) (fun c23 => ?_) (fun c23 => ?_)
                    · exact absurd rfl c23
                    · skip
                      refine lv_aload_n hx hb dX8_readOneOf_42 rfl (lv_at hl 4 rfl) ?_
                      refine lv_aload_n hx hb dX8_readOneOf_43 rfl (lv_at hl 5 rfl) ?_
                      refine lv_iload hx hb dX8_readOneOf_44 (lv_at hl 1 rfl) ?_
                      refine lv_iload hx hb dX8_readOneOf_46 (lv_at hl 0 rfl) ?_
                      refine lv_iload_n hx hb dX8_readOneOf_48 rfl (lv_at hl 3 rfl) ?_
                      refine vp_callSi (W.runV (As := [.ref (ak 2), .int 0, .int 4, .int r3]) (rest := []) ⟨hx, hb, hml, hown, ht⟩ (c_X8_isSame_g2 l dC dI ak av h g ca (u2 iv 8 5 n2) lv fa la (IX_i (c := 8) (k := 5) hI (show inb (0, 200) n2 from ⟨by omega, by omega⟩)) 0 4 r3 ⟨by decide, by decide⟩ ⟨by decide, by decide⟩ ⟨by omega, by omega⟩) (kV 4 ht m_753 m_755 m_20 m_82 m_756 rfl rfl hd_X8_isSame_v ⟨Nat.le_of_ble_eq_true rfl, Nat.le_of_ble_eq_true rfl⟩) (vRZ hP hK ((hZ.kept hS.2.1).narrow (fun _ h => h.elim)) (rX_8 hK hP)) rfl rfl hl.1 rfl (lv_room (Nat.le_of_ble_eq_true rfl)) dX8_readOneOf_49 ⟨Nat.le_of_ble_eq_true rfl, Nat.le_of_ble_eq_true rfl⟩) (fun r24 hr24 => ?_)
                      obtain ⟨hr24, xr24_0⟩ := hr24
                      have : (4 : Int32).toInt = 4 := (by decide)
                      have : (0 : Int32).toInt = 0 := (by decide)
                      have xr24_0 : (((r24 : Int32).toInt = 1 ∧ WdG (fun j => ((fa 8 1) j).toInt) (n2 : Int32).toInt (r3 : Int32).toInt ((4 : Int32).toInt - (0 : Int32).toInt) (LsW 2 (0 : Int32).toInt)) ∨ ((r24 : Int32).toInt = 0 ∧ ¬ WdG (fun j => ((fa 8 1) j).toInt) (n2 : Int32).toInt (r3 : Int32).toInt ((4 : Int32).toInt - (0 : Int32).toInt) (LsW 2 (0 : Int32).toInt))) := xr24_0
                      refine lv_if_eq (tgt := 62) hx hb dX8_readOneOf_52 (by decide) (fun c25 => ?_) (fun c25 => ?_)
                      · have fc25 := z_eq (rfl : (r24).toInt = _) (by decide : (0 : Int32).toInt = 0) c25
                        refine lv_iinc (v := 1) (lv' := [(3, .int 1), (5, .int 4), (4, .int 0), (2, .int r3), (0, .ref (g 11 4)), (1, .ref (ak 2))]) hx hb dX8_readOneOf_62 hl (k := 2) rfl (by decide) (by decide) rfl (fun ls hl => ?_)
                        refine lv_iload hx hb dX8_readOneOf_65 (lv_at hl 1 rfl) ?_
                        refine lv_iconst (v := 1) hx hb dX8_readOneOf_67 (by decide) ?_
                        refine lv_iadd hx hb dX8_readOneOf_68 ?_
                        refine lv_topi (fun v26 ev26 => ?_)
                        obtain rfl : 5 = v26 := (ev26.trans (by decide)).symm
                        refine lv_istore (lv' := [(4, .int 5), (3, .int 1), (5, .int 4), (2, .int r3), (0, .ref (g 11 4)), (1, .ref (ak 2))]) hx hb dX8_readOneOf_69 hl (by decide) rfl (fun ls hl => ?_)
                        refine lv_iinc (v := 5) (lv' := [(5, .int 5), (4, .int 5), (3, .int 1), (2, .int r3), (0, .ref (g 11 4)), (1, .ref (ak 2))]) hx hb dX8_readOneOf_71 hl (k := 2) rfl (by decide) (by decide) rfl (fun ls hl => ?_)
                        refine lv_goto (tgt := 22) hx hb dX8_readOneOf_74 (by decide) ?_
                        refine lv_iload hx hb dX8_readOneOf_22 (lv_at hl 0 rfl) ?_
                        refine lv_aload_n hx hb dX8_readOneOf_24 rfl (lv_at hl 5 rfl) ?_
                        refine vp_callSi (W.runV (As := []) (rest := [.int 5]) ⟨hx, hb, hml, hown, ht⟩ (c_J0_length_8abf5_2 l dC dI ak av) (kV 0 ht m_705 m_706 m_707 m_91 m_708 rfl rfl hd_J0_length_8abf5_v ⟨Nat.le_of_ble_eq_true rfl, Nat.le_of_ble_eq_true rfl⟩) (vRZ noP (hK.sub (tys' := []) [] rfl) ((hZ.kept hS.2.1).narrow (fun _ h => h.elim)) (vk_recv hZ.1.2.2.2.2.2 (i := 2) (by decide) hS)) rfl rfl hl.1 rfl (lv_room (Nat.le_of_ble_eq_true rfl)) dX8_readOneOf_25 ⟨Nat.le_of_ble_eq_true rfl, Nat.le_of_ble_eq_true rfl⟩) (fun r27 hr27 => ?_)
                        obtain rfl : 18 = r27 := hr27.symm
                        refine lv_icmp_ge (tgt := 77) hx hb dX8_readOneOf_28 (by decide) (fun c28 => ?_) (fun c28 => ?_)
                        · exact absurd c28 (by decide)
                        · skip
                          refine lv_aload_n hx hb dX8_readOneOf_31 rfl (lv_at hl 5 rfl) ?_
                          refine lv_iload hx hb dX8_readOneOf_32 (lv_at hl 0 rfl) ?_
                          refine vp_callSi (W.runV (As := [.int 5]) (rest := []) ⟨hx, hb, hml, hown, ht⟩ (c_J0_charAt_5068e_2 l dC dI ak av 5 ⟨by decide, by decide⟩) (kV 1 ht m_715 m_716 m_717 m_91 m_718 rfl rfl hd_J0_charAt_5068e_v ⟨Nat.le_of_ble_eq_true rfl, Nat.le_of_ble_eq_true rfl⟩) (vRZ noP (hK.sub (tys' := []) [] rfl) ((hZ.kept hS.2.1).narrow (fun _ h => h.elim)) (vk_recv hZ.1.2.2.2.2.2 (i := 2) (by decide) hS)) rfl rfl hl.1 rfl (lv_room (Nat.le_of_ble_eq_true rfl)) dX8_readOneOf_34 ⟨Nat.le_of_ble_eq_true rfl, Nat.le_of_ble_eq_true rfl⟩) (fun r29 hr29 => ?_)
                          obtain rfl : 108 = r29 := (hr29.trans (by decide)).symm
                          refine lv_bipush (v := 32) hx hb dX8_readOneOf_37 (by decide) ?_
                          refine lv_icmp_ne (tgt := 71) hx hb dX8_readOneOf_39 (by decide) (fun c30 => ?_) (fun c30 => ?_)
                          · skip
                            refine lv_iinc (v := 6) (lv' := [(5, .int 6), (4, .int 5), (3, .int 1), (2, .int r3), (0, .ref (g 11 4)), (1, .ref (ak 2))]) hx hb dX8_readOneOf_71 hl (k := 0) rfl (by decide) (by decide) rfl (fun ls hl => ?_)
                            refine lv_goto (tgt := 22) hx hb dX8_readOneOf_74 (by decide) ?_
                            refine lv_iload hx hb dX8_readOneOf_22 (lv_at hl 0 rfl) ?_
                            refine lv_aload_n hx hb dX8_readOneOf_24 rfl (lv_at hl 5 rfl) ?_
                            refine vp_callSi (W.runV (As := []) (rest := [.int 6]) ⟨hx, hb, hml, hown, ht⟩ (c_J0_length_8abf5_2 l dC dI ak av) (kV 0 ht m_705 m_706 m_707 m_91 m_708 rfl rfl hd_J0_length_8abf5_v ⟨Nat.le_of_ble_eq_true rfl, Nat.le_of_ble_eq_true rfl⟩) (vRZ noP (hK.sub (tys' := []) [] rfl) ((hZ.kept hS.2.1).narrow (fun _ h => h.elim)) (vk_recv hZ.1.2.2.2.2.2 (i := 2) (by decide) hS)) rfl rfl hl.1 rfl (lv_room (Nat.le_of_ble_eq_true rfl)) dX8_readOneOf_25 ⟨Nat.le_of_ble_eq_true rfl, Nat.le_of_ble_eq_true rfl⟩) (fun r31 hr31 => ?_)
                            obtain rfl : 18 = r31 := hr31.symm
                            refine lv_icmp_ge (tgt := 77) hx hb dX8_readOneOf_28 (by decide) (fun c32 => ?_) (fun c32 => ?_)
                            · exact absurd c32 (by decide)
                            · skip
                              refine lv_aload_n hx hb dX8_readOneOf_31 rfl (lv_at hl 5 rfl) ?_
                              refine lv_iload hx hb dX8_readOneOf_32 (lv_at hl 0 rfl) ?_
                              refine vp_callSi (W.runV (As := [.int 6]) (rest := []) ⟨hx, hb, hml, hown, ht⟩ (c_J0_charAt_5068e_2 l dC dI ak av 6 ⟨by decide, by decide⟩) (kV 1 ht m_715 m_716 m_717 m_91 m_718 rfl rfl hd_J0_charAt_5068e_v ⟨Nat.le_of_ble_eq_true rfl, Nat.le_of_ble_eq_true rfl⟩) (vRZ noP (hK.sub (tys' := []) [] rfl) ((hZ.kept hS.2.1).narrow (fun _ h => h.elim)) (vk_recv hZ.1.2.2.2.2.2 (i := 2) (by decide) hS)) rfl rfl hl.1 rfl (lv_room (Nat.le_of_ble_eq_true rfl)) dX8_readOneOf_34 ⟨Nat.le_of_ble_eq_true rfl, Nat.le_of_ble_eq_true rfl⟩) (fun r33 hr33 => ?_)
                              obtain rfl : 101 = r33 := (hr33.trans (by decide)).symm
                              refine lv_bipush (v := 32) hx hb dX8_readOneOf_37 (by decide) ?_
                              refine lv_icmp_ne (tgt := 71) hx hb dX8_readOneOf_39 (by decide) (fun c34 => ?_) (fun c34 => ?_)
                              · skip
                                refine lv_iinc (v := 7) (lv' := [(5, .int 7), (4, .int 5), (3, .int 1), (2, .int r3), (0, .ref (g 11 4)), (1, .ref (ak 2))]) hx hb dX8_readOneOf_71 hl (k := 0) rfl (by decide) (by decide) rfl (fun ls hl => ?_)
                                refine lv_goto (tgt := 22) hx hb dX8_readOneOf_74 (by decide) ?_
                                refine lv_iload hx hb dX8_readOneOf_22 (lv_at hl 0 rfl) ?_
                                refine lv_aload_n hx hb dX8_readOneOf_24 rfl (lv_at hl 5 rfl) ?_
                                refine vp_callSi (W.runV (As := []) (rest := [.int 7]) ⟨hx, hb, hml, hown, ht⟩ (c_J0_length_8abf5_2 l dC dI ak av) (kV 0 ht m_705 m_706 m_707 m_91 m_708 rfl rfl hd_J0_length_8abf5_v ⟨Nat.le_of_ble_eq_true rfl, Nat.le_of_ble_eq_true rfl⟩) (vRZ noP (hK.sub (tys' := []) [] rfl) ((hZ.kept hS.2.1).narrow (fun _ h => h.elim)) (vk_recv hZ.1.2.2.2.2.2 (i := 2) (by decide) hS)) rfl rfl hl.1 rfl (lv_room (Nat.le_of_ble_eq_true rfl)) dX8_readOneOf_25 ⟨Nat.le_of_ble_eq_true rfl, Nat.le_of_ble_eq_true rfl⟩) (fun r35 hr35 => ?_)
                                obtain rfl : 18 = r35 := hr35.symm
                                refine lv_icmp_ge (tgt := 77) hx hb dX8_readOneOf_28 (by decide) (fun c36 => ?_) (fun c36 => ?_)
                                · exact absurd c36 (by decide)
                                · skip
                                  refine lv_aload_n hx hb dX8_readOneOf_31 rfl (lv_at hl 5 rfl) ?_
                                  refine lv_iload hx hb dX8_readOneOf_32 (lv_at hl 0 rfl) ?_
                                  refine vp_callSi (W.runV (As := [.int 7]) (rest := []) ⟨hx, hb, hml, hown, ht⟩ (c_J0_charAt_5068e_2 l dC dI ak av 7 ⟨by decide, by decide⟩) (kV 1 ht m_715 m_716 m_717 m_91 m_718 rfl rfl hd_J0_charAt_5068e_v ⟨Nat.le_of_ble_eq_true rfl, Nat.le_of_ble_eq_true rfl⟩) (vRZ noP (hK.sub (tys' := []) [] rfl) ((hZ.kept hS.2.1).narrow (fun _ h => h.elim)) (vk_recv hZ.1.2.2.2.2.2 (i := 2) (by decide) hS)) rfl rfl hl.1 rfl (lv_room (Nat.le_of_ble_eq_true rfl)) dX8_readOneOf_34 ⟨Nat.le_of_ble_eq_true rfl, Nat.le_of_ble_eq_true rfl⟩) (fun r37 hr37 => ?_)
                                  obtain rfl : 97 = r37 := (hr37.trans (by decide)).symm
                                  refine lv_bipush (v := 32) hx hb dX8_readOneOf_37 (by decide) ?_
                                  refine lv_icmp_ne (tgt := 71) hx hb dX8_readOneOf_39 (by decide) (fun c38 => ?_) (fun c38 => ?_)
                                  · skip
                                    refine lv_iinc (v := 8) (lv' := [(5, .int 8), (4, .int 5), (3, .int 1), (2, .int r3), (0, .ref (g 11 4)), (1, .ref (ak 2))]) hx hb dX8_readOneOf_71 hl (k := 0) rfl (by decide) (by decide) rfl (fun ls hl => ?_)
                                    refine lv_goto (tgt := 22) hx hb dX8_readOneOf_74 (by decide) ?_
                                    refine lv_iload hx hb dX8_readOneOf_22 (lv_at hl 0 rfl) ?_
                                    refine lv_aload_n hx hb dX8_readOneOf_24 rfl (lv_at hl 5 rfl) ?_
                                    refine vp_callSi (W.runV (As := []) (rest := [.int 8]) ⟨hx, hb, hml, hown, ht⟩ (c_J0_length_8abf5_2 l dC dI ak av) (kV 0 ht m_705 m_706 m_707 m_91 m_708 rfl rfl hd_J0_length_8abf5_v ⟨Nat.le_of_ble_eq_true rfl, Nat.le_of_ble_eq_true rfl⟩) (vRZ noP (hK.sub (tys' := []) [] rfl) ((hZ.kept hS.2.1).narrow (fun _ h => h.elim)) (vk_recv hZ.1.2.2.2.2.2 (i := 2) (by decide) hS)) rfl rfl hl.1 rfl (lv_room (Nat.le_of_ble_eq_true rfl)) dX8_readOneOf_25 ⟨Nat.le_of_ble_eq_true rfl, Nat.le_of_ble_eq_true rfl⟩) (fun r39 hr39 => ?_)
                                    obtain rfl : 18 = r39 := hr39.symm
                                    refine lv_icmp_ge (tgt := 77) hx hb dX8_readOneOf_28 (by decide) (fun c40 => ?_) (fun c40 => ?_)
                                    · exact absurd c40 (by decide)
                                    · skip
                                      refine lv_aload_n hx hb dX8_readOneOf_31 rfl (lv_at hl 5 rfl) ?_
                                      refine lv_iload hx hb dX8_readOneOf_32 (lv_at hl 0 rfl) ?_
                                      refine vp_callSi (W.runV (As := [.int 8]) (rest := []) ⟨hx, hb, hml, hown, ht⟩ (c_J0_charAt_5068e_2 l dC dI ak av 8 ⟨by decide, by decide⟩) (kV 1 ht m_715 m_716 m_717 m_91 m_718 rfl rfl hd_J0_charAt_5068e_v ⟨Nat.le_of_ble_eq_true rfl, Nat.le_of_ble_eq_true rfl⟩) (vRZ noP (hK.sub (tys' := []) [] rfl) ((hZ.kept hS.2.1).narrow (fun _ h => h.elim)) (vk_recv hZ.1.2.2.2.2.2 (i := 2) (by decide) hS)) rfl rfl hl.1 rfl (lv_room (Nat.le_of_ble_eq_true rfl)) dX8_readOneOf_34 ⟨Nat.le_of_ble_eq_true rfl, Nat.le_of_ble_eq_true rfl⟩) (fun r41 hr41 => ?_)
                                      obtain rfl : 115 = r41 := (hr41.trans (by decide)).symm
                                      refine lv_bipush (v := 32) hx hb dX8_readOneOf_37 (by decide) ?_
                                      refine lv_icmp_ne (tgt := 71) hx hb dX8_readOneOf_39 (by decide) (fun c42 => ?_) (fun c42 => ?_)
                                      · skip
                                        refine lv_iinc (v := 9) (lv' := [(5, .int 9), (4, .int 5), (3, .int 1), (2, .int r3), (0, .ref (g 11 4)), (1, .ref (ak 2))]) hx hb dX8_readOneOf_71 hl (k := 0) rfl (by decide) (by decide) rfl (fun ls hl => ?_)
                                        refine lv_goto (tgt := 22) hx hb dX8_readOneOf_74 (by decide) ?_
                                        refine lv_iload hx hb dX8_readOneOf_22 (lv_at hl 0 rfl) ?_
                                        refine lv_aload_n hx hb dX8_readOneOf_24 rfl (lv_at hl 5 rfl) ?_
                                        refine vp_callSi (W.runV (As := []) (rest := [.int 9]) ⟨hx, hb, hml, hown, ht⟩ (c_J0_length_8abf5_2 l dC dI ak av) (kV 0 ht m_705 m_706 m_707 m_91 m_708 rfl rfl hd_J0_length_8abf5_v ⟨Nat.le_of_ble_eq_true rfl, Nat.le_of_ble_eq_true rfl⟩) (vRZ noP (hK.sub (tys' := []) [] rfl) ((hZ.kept hS.2.1).narrow (fun _ h => h.elim)) (vk_recv hZ.1.2.2.2.2.2 (i := 2) (by decide) hS)) rfl rfl hl.1 rfl (lv_room (Nat.le_of_ble_eq_true rfl)) dX8_readOneOf_25 ⟨Nat.le_of_ble_eq_true rfl, Nat.le_of_ble_eq_true rfl⟩) (fun r43 hr43 => ?_)
                                        obtain rfl : 18 = r43 := hr43.symm
                                        refine lv_icmp_ge (tgt := 77) hx hb dX8_readOneOf_28 (by decide) (fun c44 => ?_) (fun c44 => ?_)
                                        · exact absurd c44 (by decide)
                                        · skip
                                          refine lv_aload_n hx hb dX8_readOneOf_31 rfl (lv_at hl 5 rfl) ?_
                                          refine lv_iload hx hb dX8_readOneOf_32 (lv_at hl 0 rfl) ?_
                                          refine vp_callSi (W.runV (As := [.int 9]) (rest := []) ⟨hx, hb, hml, hown, ht⟩ (c_J0_charAt_5068e_2 l dC dI ak av 9 ⟨by decide, by decide⟩) (kV 1 ht m_715 m_716 m_717 m_91 m_718 rfl rfl hd_J0_charAt_5068e_v ⟨Nat.le_of_ble_eq_true rfl, Nat.le_of_ble_eq_true rfl⟩) (vRZ noP (hK.sub (tys' := []) [] rfl) ((hZ.kept hS.2.1).narrow (fun _ h => h.elim)) (vk_recv hZ.1.2.2.2.2.2 (i := 2) (by decide) hS)) rfl rfl hl.1 rfl (lv_room (Nat.le_of_ble_eq_true rfl)) dX8_readOneOf_34 ⟨Nat.le_of_ble_eq_true rfl, Nat.le_of_ble_eq_true rfl⟩) (fun r45 hr45 => ?_)
                                          obtain rfl : 116 = r45 := (hr45.trans (by decide)).symm
                                          refine lv_bipush (v := 32) hx hb dX8_readOneOf_37 (by decide) ?_
                                          refine lv_icmp_ne (tgt := 71) hx hb dX8_readOneOf_39 (by decide) (fun c46 => ?_) (fun c46 => ?_)
                                          · skip
                                            refine lv_iinc (v := 10) (lv' := [(5, .int 10), (4, .int 5), (3, .int 1), (2, .int r3), (0, .ref (g 11 4)), (1, .ref (ak 2))]) hx hb dX8_readOneOf_71 hl (k := 0) rfl (by decide) (by decide) rfl (fun ls hl => ?_)
                                            refine lv_goto (tgt := 22) hx hb dX8_readOneOf_74 (by decide) ?_
                                            refine lv_iload hx hb dX8_readOneOf_22 (lv_at hl 0 rfl) ?_
                                            refine lv_aload_n hx hb dX8_readOneOf_24 rfl (lv_at hl 5 rfl) ?_
                                            refine vp_callSi (W.runV (As := []) (rest := [.int 10]) ⟨hx, hb, hml, hown, ht⟩ (c_J0_length_8abf5_2 l dC dI ak av) (kV 0 ht m_705 m_706 m_707 m_91 m_708 rfl rfl hd_J0_length_8abf5_v ⟨Nat.le_of_ble_eq_true rfl, Nat.le_of_ble_eq_true rfl⟩) (vRZ noP (hK.sub (tys' := []) [] rfl) ((hZ.kept hS.2.1).narrow (fun _ h => h.elim)) (vk_recv hZ.1.2.2.2.2.2 (i := 2) (by decide) hS)) rfl rfl hl.1 rfl (lv_room (Nat.le_of_ble_eq_true rfl)) dX8_readOneOf_25 ⟨Nat.le_of_ble_eq_true rfl, Nat.le_of_ble_eq_true rfl⟩) (fun r47 hr47 => ?_)
                                            obtain rfl : 18 = r47 := hr47.symm
                                            refine lv_icmp_ge (tgt := 77) hx hb dX8_readOneOf_28 (by decide) (fun c48 => ?_) (fun c48 => ?_)
                                            · exact absurd c48 (by decide)
                                            · skip
                                              refine lv_aload_n hx hb dX8_readOneOf_31 rfl (lv_at hl 5 rfl) ?_
                                              refine lv_iload hx hb dX8_readOneOf_32 (lv_at hl 0 rfl) ?_
                                              refine vp_callSi (W.runV (As := [.int 10]) (rest := []) ⟨hx, hb, hml, hown, ht⟩ (c_J0_charAt_5068e_2 l dC dI ak av 10 ⟨by decide, by decide⟩) (kV 1 ht m_715 m_716 m_717 m_91 m_718 rfl rfl hd_J0_charAt_5068e_v ⟨Nat.le_of_ble_eq_true rfl, Nat.le_of_ble_eq_true rfl⟩) (vRZ noP (hK.sub (tys' := []) [] rfl) ((hZ.kept hS.2.1).narrow (fun _ h => h.elim)) (vk_recv hZ.1.2.2.2.2.2 (i := 2) (by decide) hS)) rfl rfl hl.1 rfl (lv_room (Nat.le_of_ble_eq_true rfl)) dX8_readOneOf_34 ⟨Nat.le_of_ble_eq_true rfl, Nat.le_of_ble_eq_true rfl⟩) (fun r49 hr49 => ?_)
                                              obtain rfl : 32 = r49 := (hr49.trans (by decide)).symm
                                              refine lv_bipush (v := 32) hx hb dX8_readOneOf_37 (by decide) ?_
                                              refine lv_icmp_ne (tgt := 71) hx hb dX8_readOneOf_39 (by decide) (fun c50 => ?_) (fun c50 => ?_)
                                              · exact absurd rfl c50
                                              · skip
                                                refine lv_aload_n hx hb dX8_readOneOf_42 rfl (lv_at hl 4 rfl) ?_
                                                refine lv_aload_n hx hb dX8_readOneOf_43 rfl (lv_at hl 5 rfl) ?_
                                                refine lv_iload hx hb dX8_readOneOf_44 (lv_at hl 1 rfl) ?_
                                                refine lv_iload hx hb dX8_readOneOf_46 (lv_at hl 0 rfl) ?_
                                                refine lv_iload_n hx hb dX8_readOneOf_48 rfl (lv_at hl 3 rfl) ?_
                                                refine vp_callSi (W.runV (As := [.ref (ak 2), .int 5, .int 10, .int r3]) (rest := []) ⟨hx, hb, hml, hown, ht⟩ (c_X8_isSame_g2 l dC dI ak av h g ca (u2 iv 8 5 n2) lv fa la (IX_i (c := 8) (k := 5) hI (show inb (0, 200) n2 from ⟨by omega, by omega⟩)) 5 10 r3 ⟨by decide, by decide⟩ ⟨by decide, by decide⟩ ⟨by omega, by omega⟩) (kV 4 ht m_753 m_755 m_20 m_82 m_756 rfl rfl hd_X8_isSame_v ⟨Nat.le_of_ble_eq_true rfl, Nat.le_of_ble_eq_true rfl⟩) (vRZ hP hK ((hZ.kept hS.2.1).narrow (fun _ h => h.elim)) (rX_8 hK hP)) rfl rfl hl.1 rfl (lv_room (Nat.le_of_ble_eq_true rfl)) dX8_readOneOf_49 ⟨Nat.le_of_ble_eq_true rfl, Nat.le_of_ble_eq_true rfl⟩) (fun r51 hr51 => ?_)
                                                obtain ⟨hr51, xr51_0⟩ := hr51
                                                have : (10 : Int32).toInt = 10 := (by decide)
                                                have : (5 : Int32).toInt = 5 := (by decide)
                                                have xr51_0 : (((r51 : Int32).toInt = 1 ∧ WdG (fun j => ((fa 8 1) j).toInt) (n2 : Int32).toInt (r3 : Int32).toInt ((10 : Int32).toInt - (5 : Int32).toInt) (LsW 2 (5 : Int32).toInt)) ∨ ((r51 : Int32).toInt = 0 ∧ ¬ WdG (fun j => ((fa 8 1) j).toInt) (n2 : Int32).toInt (r3 : Int32).toInt ((10 : Int32).toInt - (5 : Int32).toInt) (LsW 2 (5 : Int32).toInt))) := xr51_0
                                                refine lv_if_eq (tgt := 62) hx hb dX8_readOneOf_52 (by decide) (fun c52 => ?_) (fun c52 => ?_)
                                                · have fc52 := z_eq (rfl : (r51).toInt = _) (by decide : (0 : Int32).toInt = 0) c52
                                                  refine lv_iinc (v := 2) (lv' := [(3, .int 2), (5, .int 10), (4, .int 5), (2, .int r3), (0, .ref (g 11 4)), (1, .ref (ak 2))]) hx hb dX8_readOneOf_62 hl (k := 2) rfl (by decide) (by decide) rfl (fun ls hl => ?_)
                                                  refine lv_iload hx hb dX8_readOneOf_65 (lv_at hl 1 rfl) ?_
                                                  refine lv_iconst (v := 1) hx hb dX8_readOneOf_67 (by decide) ?_
                                                  refine lv_iadd hx hb dX8_readOneOf_68 ?_
                                                  refine lv_topi (fun v53 ev53 => ?_)
                                                  obtain rfl : 11 = v53 := (ev53.trans (by decide)).symm
                                                  refine lv_istore (lv' := [(4, .int 11), (3, .int 2), (5, .int 10), (2, .int r3), (0, .ref (g 11 4)), (1, .ref (ak 2))]) hx hb dX8_readOneOf_69 hl (by decide) rfl (fun ls hl => ?_)
                                                  refine lv_iinc (v := 11) (lv' := [(5, .int 11), (4, .int 11), (3, .int 2), (2, .int r3), (0, .ref (g 11 4)), (1, .ref (ak 2))]) hx hb dX8_readOneOf_71 hl (k := 2) rfl (by decide) (by decide) rfl (fun ls hl => ?_)
                                                  refine lv_goto (tgt := 22) hx hb dX8_readOneOf_74 (by decide) ?_
                                                  refine lv_iload hx hb dX8_readOneOf_22 (lv_at hl 0 rfl) ?_
                                                  refine lv_aload_n hx hb dX8_readOneOf_24 rfl (lv_at hl 5 rfl) ?_
                                                  refine vp_callSi (W.runV (As := []) (rest := [.int 11]) ⟨hx, hb, hml, hown, ht⟩ (c_J0_length_8abf5_2 l dC dI ak av) (kV 0 ht m_705 m_706 m_707 m_91 m_708 rfl rfl hd_J0_length_8abf5_v ⟨Nat.le_of_ble_eq_true rfl, Nat.le_of_ble_eq_true rfl⟩) (vRZ noP (hK.sub (tys' := []) [] rfl) ((hZ.kept hS.2.1).narrow (fun _ h => h.elim)) (vk_recv hZ.1.2.2.2.2.2 (i := 2) (by decide) hS)) rfl rfl hl.1 rfl (lv_room (Nat.le_of_ble_eq_true rfl)) dX8_readOneOf_25 ⟨Nat.le_of_ble_eq_true rfl, Nat.le_of_ble_eq_true rfl⟩) (fun r54 hr54 => ?_)
                                                  obtain rfl : 18 = r54 := hr54.symm
                                                  refine lv_icmp_ge (tgt := 77) hx hb dX8_readOneOf_28 (by decide) (fun c55 => ?_) (fun c55 => ?_)
                                                  · exact absurd c55 (by decide)
                                                  · skip
                                                    refine lv_aload_n hx hb dX8_readOneOf_31 rfl (lv_at hl 5 rfl) ?_
                                                    refine lv_iload hx hb dX8_readOneOf_32 (lv_at hl 0 rfl) ?_
                                                    refine vp_callSi (W.runV (As := [.int 11]) (rest := []) ⟨hx, hb, hml, hown, ht⟩ (c_J0_charAt_5068e_2 l dC dI ak av 11 ⟨by decide, by decide⟩) (kV 1 ht m_715 m_716 m_717 m_91 m_718 rfl rfl hd_J0_charAt_5068e_v ⟨Nat.le_of_ble_eq_true rfl, Nat.le_of_ble_eq_true rfl⟩) (vRZ noP (hK.sub (tys' := []) [] rfl) ((hZ.kept hS.2.1).narrow (fun _ h => h.elim)) (vk_recv hZ.1.2.2.2.2.2 (i := 2) (by decide) hS)) rfl rfl hl.1 rfl (lv_room (Nat.le_of_ble_eq_true rfl)) dX8_readOneOf_34 ⟨Nat.le_of_ble_eq_true rfl, Nat.le_of_ble_eq_true rfl⟩) (fun r56 hr56 => ?_)
                                                    obtain rfl : 109 = r56 := (hr56.trans (by decide)).symm
                                                    refine lv_bipush (v := 32) hx hb dX8_readOneOf_37 (by decide) ?_
                                                    refine lv_icmp_ne (tgt := 71) hx hb dX8_readOneOf_39 (by decide) (fun c57 => ?_) (fun c57 => ?_)
                                                    · skip
                                                      refine lv_iinc (v := 12) (lv' := [(5, .int 12), (4, .int 11), (3, .int 2), (2, .int r3), (0, .ref (g 11 4)), (1, .ref (ak 2))]) hx hb dX8_readOneOf_71 hl (k := 0) rfl (by decide) (by decide) rfl (fun ls hl => ?_)
                                                      refine lv_goto (tgt := 22) hx hb dX8_readOneOf_74 (by decide) ?_
                                                      refine lv_iload hx hb dX8_readOneOf_22 (lv_at hl 0 rfl) ?_
                                                      refine lv_aload_n hx hb dX8_readOneOf_24 rfl (lv_at hl 5 rfl) ?_
                                                      refine vp_callSi (W.runV (As := []) (rest := [.int 12]) ⟨hx, hb, hml, hown, ht⟩ (c_J0_length_8abf5_2 l dC dI ak av) (kV 0 ht m_705 m_706 m_707 m_91 m_708 rfl rfl hd_J0_length_8abf5_v ⟨Nat.le_of_ble_eq_true rfl, Nat.le_of_ble_eq_true rfl⟩) (vRZ noP (hK.sub (tys' := []) [] rfl) ((hZ.kept hS.2.1).narrow (fun _ h => h.elim)) (vk_recv hZ.1.2.2.2.2.2 (i := 2) (by decide) hS)) rfl rfl hl.1 rfl (lv_room (Nat.le_of_ble_eq_true rfl)) dX8_readOneOf_25 ⟨Nat.le_of_ble_eq_true rfl, Nat.le_of_ble_eq_true rfl⟩) (fun r58 hr58 => ?_)
                                                      obtain rfl : 18 = r58 := hr58.symm
                                                      refine lv_icmp_ge (tgt := 77) hx hb dX8_readOneOf_28 (by decide) (fun c59 => ?_) (fun c59 => ?_)
                                                      · exact absurd c59 (by decide)
                                                      · skip
                                                        refine lv_aload_n hx hb dX8_readOneOf_31 rfl (lv_at hl 5 rfl) ?_
                                                        refine lv_iload hx hb dX8_readOneOf_32 (lv_at hl 0 rfl) ?_
                                                        refine vp_callSi (W.runV (As := [.int 12]) (rest := []) ⟨hx, hb, hml, hown, ht⟩ (c_J0_charAt_5068e_2 l dC dI ak av 12 ⟨by decide, by decide⟩) (kV 1 ht m_715 m_716 m_717 m_91 m_718 rfl rfl hd_J0_charAt_5068e_v ⟨Nat.le_of_ble_eq_true rfl, Nat.le_of_ble_eq_true rfl⟩) (vRZ noP (hK.sub (tys' := []) [] rfl) ((hZ.kept hS.2.1).narrow (fun _ h => h.elim)) (vk_recv hZ.1.2.2.2.2.2 (i := 2) (by decide) hS)) rfl rfl hl.1 rfl (lv_room (Nat.le_of_ble_eq_true rfl)) dX8_readOneOf_34 ⟨Nat.le_of_ble_eq_true rfl, Nat.le_of_ble_eq_true rfl⟩) (fun r60 hr60 => ?_)
                                                        obtain rfl : 105 = r60 := (hr60.trans (by decide)).symm
                                                        refine lv_bipush (v := 32) hx hb dX8_readOneOf_37 (by decide) ?_
                                                        refine lv_icmp_ne (tgt := 71) hx hb dX8_readOneOf_39 (by decide) (fun c61 => ?_) (fun c61 => ?_)
                                                        · skip
                                                          refine lv_iinc (v := 13) (lv' := [(5, .int 13), (4, .int 11), (3, .int 2), (2, .int r3), (0, .ref (g 11 4)), (1, .ref (ak 2))]) hx hb dX8_readOneOf_71 hl (k := 0) rfl (by decide) (by decide) rfl (fun ls hl => ?_)
                                                          refine lv_goto (tgt := 22) hx hb dX8_readOneOf_74 (by decide) ?_
                                                          refine lv_iload hx hb dX8_readOneOf_22 (lv_at hl 0 rfl) ?_
                                                          refine lv_aload_n hx hb dX8_readOneOf_24 rfl (lv_at hl 5 rfl) ?_
                                                          refine vp_callSi (W.runV (As := []) (rest := [.int 13]) ⟨hx, hb, hml, hown, ht⟩ (c_J0_length_8abf5_2 l dC dI ak av) (kV 0 ht m_705 m_706 m_707 m_91 m_708 rfl rfl hd_J0_length_8abf5_v ⟨Nat.le_of_ble_eq_true rfl, Nat.le_of_ble_eq_true rfl⟩) (vRZ noP (hK.sub (tys' := []) [] rfl) ((hZ.kept hS.2.1).narrow (fun _ h => h.elim)) (vk_recv hZ.1.2.2.2.2.2 (i := 2) (by decide) hS)) rfl rfl hl.1 rfl (lv_room (Nat.le_of_ble_eq_true rfl)) dX8_readOneOf_25 ⟨Nat.le_of_ble_eq_true rfl, Nat.le_of_ble_eq_true rfl⟩) (fun r62 hr62 => ?_)
                                                          obtain rfl : 18 = r62 := hr62.symm
                                                          refine lv_icmp_ge (tgt := 77) hx hb dX8_readOneOf_28 (by decide) (fun c63 => ?_) (fun c63 => ?_)
                                                          · exact absurd c63 (by decide)
                                                          · skip
                                                            refine lv_aload_n hx hb dX8_readOneOf_31 rfl (lv_at hl 5 rfl) ?_
                                                            refine lv_iload hx hb dX8_readOneOf_32 (lv_at hl 0 rfl) ?_
                                                            refine vp_callSi (W.runV (As := [.int 13]) (rest := []) ⟨hx, hb, hml, hown, ht⟩ (c_J0_charAt_5068e_2 l dC dI ak av 13 ⟨by decide, by decide⟩) (kV 1 ht m_715 m_716 m_717 m_91 m_718 rfl rfl hd_J0_charAt_5068e_v ⟨Nat.le_of_ble_eq_true rfl, Nat.le_of_ble_eq_true rfl⟩) (vRZ noP (hK.sub (tys' := []) [] rfl) ((hZ.kept hS.2.1).narrow (fun _ h => h.elim)) (vk_recv hZ.1.2.2.2.2.2 (i := 2) (by decide) hS)) rfl rfl hl.1 rfl (lv_room (Nat.le_of_ble_eq_true rfl)) dX8_readOneOf_34 ⟨Nat.le_of_ble_eq_true rfl, Nat.le_of_ble_eq_true rfl⟩) (fun r64 hr64 => ?_)
                                                            obtain rfl : 100 = r64 := (hr64.trans (by decide)).symm
                                                            refine lv_bipush (v := 32) hx hb dX8_readOneOf_37 (by decide) ?_
                                                            refine lv_icmp_ne (tgt := 71) hx hb dX8_readOneOf_39 (by decide) (fun c65 => ?_) (fun c65 => ?_)
                                                            · skip
                                                              refine lv_iinc (v := 14) (lv' := [(5, .int 14), (4, .int 11), (3, .int 2), (2, .int r3), (0, .ref (g 11 4)), (1, .ref (ak 2))]) hx hb dX8_readOneOf_71 hl (k := 0) rfl (by decide) (by decide) rfl (fun ls hl => ?_)
                                                              refine lv_goto (tgt := 22) hx hb dX8_readOneOf_74 (by decide) ?_
                                                              refine lv_iload hx hb dX8_readOneOf_22 (lv_at hl 0 rfl) ?_
                                                              refine lv_aload_n hx hb dX8_readOneOf_24 rfl (lv_at hl 5 rfl) ?_
                                                              refine vp_callSi (W.runV (As := []) (rest := [.int 14]) ⟨hx, hb, hml, hown, ht⟩ (c_J0_length_8abf5_2 l dC dI ak av) (kV 0 ht m_705 m_706 m_707 m_91 m_708 rfl rfl hd_J0_length_8abf5_v ⟨Nat.le_of_ble_eq_true rfl, Nat.le_of_ble_eq_true rfl⟩) (vRZ noP (hK.sub (tys' := []) [] rfl) ((hZ.kept hS.2.1).narrow (fun _ h => h.elim)) (vk_recv hZ.1.2.2.2.2.2 (i := 2) (by decide) hS)) rfl rfl hl.1 rfl (lv_room (Nat.le_of_ble_eq_true rfl)) dX8_readOneOf_25 ⟨Nat.le_of_ble_eq_true rfl, Nat.le_of_ble_eq_true rfl⟩) (fun r66 hr66 => ?_)
                                                              obtain rfl : 18 = r66 := hr66.symm
                                                              refine lv_icmp_ge (tgt := 77) hx hb dX8_readOneOf_28 (by decide) (fun c67 => ?_) (fun c67 => ?_)
                                                              · exact absurd c67 (by decide)
                                                              · skip
                                                                refine lv_aload_n hx hb dX8_readOneOf_31 rfl (lv_at hl 5 rfl) ?_
                                                                refine lv_iload hx hb dX8_readOneOf_32 (lv_at hl 0 rfl) ?_
                                                                refine vp_callSi (W.runV (As := [.int 14]) (rest := []) ⟨hx, hb, hml, hown, ht⟩ (c_J0_charAt_5068e_2 l dC dI ak av 14 ⟨by decide, by decide⟩) (kV 1 ht m_715 m_716 m_717 m_91 m_718 rfl rfl hd_J0_charAt_5068e_v ⟨Nat.le_of_ble_eq_true rfl, Nat.le_of_ble_eq_true rfl⟩) (vRZ noP (hK.sub (tys' := []) [] rfl) ((hZ.kept hS.2.1).narrow (fun _ h => h.elim)) (vk_recv hZ.1.2.2.2.2.2 (i := 2) (by decide) hS)) rfl rfl hl.1 rfl (lv_room (Nat.le_of_ble_eq_true rfl)) dX8_readOneOf_34 ⟨Nat.le_of_ble_eq_true rfl, Nat.le_of_ble_eq_true rfl⟩) (fun r68 hr68 => ?_)
                                                                obtain rfl : 100 = r68 := (hr68.trans (by decide)).symm
                                                                refine lv_bipush (v := 32) hx hb dX8_readOneOf_37 (by decide) ?_
                                                                refine lv_icmp_ne (tgt := 71) hx hb dX8_readOneOf_39 (by decide) (fun c69 => ?_) (fun c69 => ?_)
                                                                · skip
                                                                  refine lv_iinc (v := 15) (lv' := [(5, .int 15), (4, .int 11), (3, .int 2), (2, .int r3), (0, .ref (g 11 4)), (1, .ref (ak 2))]) hx hb dX8_readOneOf_71 hl (k := 0) rfl (by decide) (by decide) rfl (fun ls hl => ?_)
                                                                  refine lv_goto (tgt := 22) hx hb dX8_readOneOf_74 (by decide) ?_
                                                                  refine lv_iload hx hb dX8_readOneOf_22 (lv_at hl 0 rfl) ?_
                                                                  refine lv_aload_n hx hb dX8_readOneOf_24 rfl (lv_at hl 5 rfl) ?_
                                                                  refine vp_callSi (W.runV (As := []) (rest := [.int 15]) ⟨hx, hb, hml, hown, ht⟩ (c_J0_length_8abf5_2 l dC dI ak av) (kV 0 ht m_705 m_706 m_707 m_91 m_708 rfl rfl hd_J0_length_8abf5_v ⟨Nat.le_of_ble_eq_true rfl, Nat.le_of_ble_eq_true rfl⟩) (vRZ noP (hK.sub (tys' := []) [] rfl) ((hZ.kept hS.2.1).narrow (fun _ h => h.elim)) (vk_recv hZ.1.2.2.2.2.2 (i := 2) (by decide) hS)) rfl rfl hl.1 rfl (lv_room (Nat.le_of_ble_eq_true rfl)) dX8_readOneOf_25 ⟨Nat.le_of_ble_eq_true rfl, Nat.le_of_ble_eq_true rfl⟩) (fun r70 hr70 => ?_)
                                                                  obtain rfl : 18 = r70 := hr70.symm
                                                                  refine lv_icmp_ge (tgt := 77) hx hb dX8_readOneOf_28 (by decide) (fun c71 => ?_) (fun c71 => ?_)
                                                                  · exact absurd c71 (by decide)
                                                                  · skip
                                                                    refine lv_aload_n hx hb dX8_readOneOf_31 rfl (lv_at hl 5 rfl) ?_
                                                                    refine lv_iload hx hb dX8_readOneOf_32 (lv_at hl 0 rfl) ?_
                                                                    refine vp_callSi (W.runV (As := [.int 15]) (rest := []) ⟨hx, hb, hml, hown, ht⟩ (c_J0_charAt_5068e_2 l dC dI ak av 15 ⟨by decide, by decide⟩) (kV 1 ht m_715 m_716 m_717 m_91 m_718 rfl rfl hd_J0_charAt_5068e_v ⟨Nat.le_of_ble_eq_true rfl, Nat.le_of_ble_eq_true rfl⟩) (vRZ noP (hK.sub (tys' := []) [] rfl) ((hZ.kept hS.2.1).narrow (fun _ h => h.elim)) (vk_recv hZ.1.2.2.2.2.2 (i := 2) (by decide) hS)) rfl rfl hl.1 rfl (lv_room (Nat.le_of_ble_eq_true rfl)) dX8_readOneOf_34 ⟨Nat.le_of_ble_eq_true rfl, Nat.le_of_ble_eq_true rfl⟩) (fun r72 hr72 => ?_)
                                                                    obtain rfl : 108 = r72 := (hr72.trans (by decide)).symm
                                                                    refine lv_bipush (v := 32) hx hb dX8_readOneOf_37 (by decide) ?_
                                                                    refine lv_icmp_ne (tgt := 71) hx hb dX8_readOneOf_39 (by decide) (fun c73 => ?_) (fun c73 => ?_)
                                                                    · skip
                                                                      refine lv_iinc (v := 16) (lv' := [(5, .int 16), (4, .int 11), (3, .int 2), (2, .int r3), (0, .ref (g 11 4)), (1, .ref (ak 2))]) hx hb dX8_readOneOf_71 hl (k := 0) rfl (by decide) (by decide) rfl (fun ls hl => ?_)
                                                                      refine lv_goto (tgt := 22) hx hb dX8_readOneOf_74 (by decide) ?_
                                                                      refine lv_iload hx hb dX8_readOneOf_22 (lv_at hl 0 rfl) ?_
                                                                      refine lv_aload_n hx hb dX8_readOneOf_24 rfl (lv_at hl 5 rfl) ?_
                                                                      refine vp_callSi (W.runV (As := []) (rest := [.int 16]) ⟨hx, hb, hml, hown, ht⟩ (c_J0_length_8abf5_2 l dC dI ak av) (kV 0 ht m_705 m_706 m_707 m_91 m_708 rfl rfl hd_J0_length_8abf5_v ⟨Nat.le_of_ble_eq_true rfl, Nat.le_of_ble_eq_true rfl⟩) (vRZ noP (hK.sub (tys' := []) [] rfl) ((hZ.kept hS.2.1).narrow (fun _ h => h.elim)) (vk_recv hZ.1.2.2.2.2.2 (i := 2) (by decide) hS)) rfl rfl hl.1 rfl (lv_room (Nat.le_of_ble_eq_true rfl)) dX8_readOneOf_25 ⟨Nat.le_of_ble_eq_true rfl, Nat.le_of_ble_eq_true rfl⟩) (fun r74 hr74 => ?_)
                                                                      obtain rfl : 18 = r74 := hr74.symm
                                                                      refine lv_icmp_ge (tgt := 77) hx hb dX8_readOneOf_28 (by decide) (fun c75 => ?_) (fun c75 => ?_)
                                                                      · exact absurd c75 (by decide)
                                                                      · skip
                                                                        refine lv_aload_n hx hb dX8_readOneOf_31 rfl (lv_at hl 5 rfl) ?_
                                                                        refine lv_iload hx hb dX8_readOneOf_32 (lv_at hl 0 rfl) ?_
                                                                        refine vp_callSi (W.runV (As := [.int 16]) (rest := []) ⟨hx, hb, hml, hown, ht⟩ (c_J0_charAt_5068e_2 l dC dI ak av 16 ⟨by decide, by decide⟩) (kV 1 ht m_715 m_716 m_717 m_91 m_718 rfl rfl hd_J0_charAt_5068e_v ⟨Nat.le_of_ble_eq_true rfl, Nat.le_of_ble_eq_true rfl⟩) (vRZ noP (hK.sub (tys' := []) [] rfl) ((hZ.kept hS.2.1).narrow (fun _ h => h.elim)) (vk_recv hZ.1.2.2.2.2.2 (i := 2) (by decide) hS)) rfl rfl hl.1 rfl (lv_room (Nat.le_of_ble_eq_true rfl)) dX8_readOneOf_34 ⟨Nat.le_of_ble_eq_true rfl, Nat.le_of_ble_eq_true rfl⟩) (fun r76 hr76 => ?_)
                                                                        obtain rfl : 101 = r76 := (hr76.trans (by decide)).symm
                                                                        refine lv_bipush (v := 32) hx hb dX8_readOneOf_37 (by decide) ?_
                                                                        refine lv_icmp_ne (tgt := 71) hx hb dX8_readOneOf_39 (by decide) (fun c77 => ?_) (fun c77 => ?_)
                                                                        · skip
                                                                          refine lv_iinc (v := 17) (lv' := [(5, .int 17), (4, .int 11), (3, .int 2), (2, .int r3), (0, .ref (g 11 4)), (1, .ref (ak 2))]) hx hb dX8_readOneOf_71 hl (k := 0) rfl (by decide) (by decide) rfl (fun ls hl => ?_)
                                                                          refine lv_goto (tgt := 22) hx hb dX8_readOneOf_74 (by decide) ?_
                                                                          refine lv_iload hx hb dX8_readOneOf_22 (lv_at hl 0 rfl) ?_
                                                                          refine lv_aload_n hx hb dX8_readOneOf_24 rfl (lv_at hl 5 rfl) ?_
                                                                          refine vp_callSi (W.runV (As := []) (rest := [.int 17]) ⟨hx, hb, hml, hown, ht⟩ (c_J0_length_8abf5_2 l dC dI ak av) (kV 0 ht m_705 m_706 m_707 m_91 m_708 rfl rfl hd_J0_length_8abf5_v ⟨Nat.le_of_ble_eq_true rfl, Nat.le_of_ble_eq_true rfl⟩) (vRZ noP (hK.sub (tys' := []) [] rfl) ((hZ.kept hS.2.1).narrow (fun _ h => h.elim)) (vk_recv hZ.1.2.2.2.2.2 (i := 2) (by decide) hS)) rfl rfl hl.1 rfl (lv_room (Nat.le_of_ble_eq_true rfl)) dX8_readOneOf_25 ⟨Nat.le_of_ble_eq_true rfl, Nat.le_of_ble_eq_true rfl⟩) (fun r78 hr78 => ?_)
                                                                          obtain rfl : 18 = r78 := hr78.symm
                                                                          refine lv_icmp_ge (tgt := 77) hx hb dX8_readOneOf_28 (by decide) (fun c79 => ?_) (fun c79 => ?_)
                                                                          · exact absurd c79 (by decide)
                                                                          · skip
                                                                            refine lv_aload_n hx hb dX8_readOneOf_31 rfl (lv_at hl 5 rfl) ?_
                                                                            refine lv_iload hx hb dX8_readOneOf_32 (lv_at hl 0 rfl) ?_
                                                                            refine vp_callSi (W.runV (As := [.int 17]) (rest := []) ⟨hx, hb, hml, hown, ht⟩ (c_J0_charAt_5068e_2 l dC dI ak av 17 ⟨by decide, by decide⟩) (kV 1 ht m_715 m_716 m_717 m_91 m_718 rfl rfl hd_J0_charAt_5068e_v ⟨Nat.le_of_ble_eq_true rfl, Nat.le_of_ble_eq_true rfl⟩) (vRZ noP (hK.sub (tys' := []) [] rfl) ((hZ.kept hS.2.1).narrow (fun _ h => h.elim)) (vk_recv hZ.1.2.2.2.2.2 (i := 2) (by decide) hS)) rfl rfl hl.1 rfl (lv_room (Nat.le_of_ble_eq_true rfl)) dX8_readOneOf_34 ⟨Nat.le_of_ble_eq_true rfl, Nat.le_of_ble_eq_true rfl⟩) (fun r80 hr80 => ?_)
                                                                            obtain rfl : 32 = r80 := (hr80.trans (by decide)).symm
                                                                            refine lv_bipush (v := 32) hx hb dX8_readOneOf_37 (by decide) ?_
                                                                            refine lv_icmp_ne (tgt := 71) hx hb dX8_readOneOf_39 (by decide) (fun c81 => ?_) (fun c81 => ?_)
                                                                            · exact absurd rfl c81
                                                                            · skip
                                                                              refine lv_aload_n hx hb dX8_readOneOf_42 rfl (lv_at hl 4 rfl) ?_
                                                                              refine lv_aload_n hx hb dX8_readOneOf_43 rfl (lv_at hl 5 rfl) ?_
                                                                              refine lv_iload hx hb dX8_readOneOf_44 (lv_at hl 1 rfl) ?_
                                                                              refine lv_iload hx hb dX8_readOneOf_46 (lv_at hl 0 rfl) ?_
                                                                              refine lv_iload_n hx hb dX8_readOneOf_48 rfl (lv_at hl 3 rfl) ?_
                                                                              refine vp_callSi (W.runV (As := [.ref (ak 2), .int 11, .int 17, .int r3]) (rest := []) ⟨hx, hb, hml, hown, ht⟩ (c_X8_isSame_g2 l dC dI ak av h g ca (u2 iv 8 5 n2) lv fa la (IX_i (c := 8) (k := 5) hI (show inb (0, 200) n2 from ⟨by omega, by omega⟩)) 11 17 r3 ⟨by decide, by decide⟩ ⟨by decide, by decide⟩ ⟨by omega, by omega⟩) (kV 4 ht m_753 m_755 m_20 m_82 m_756 rfl rfl hd_X8_isSame_v ⟨Nat.le_of_ble_eq_true rfl, Nat.le_of_ble_eq_true rfl⟩) (vRZ hP hK ((hZ.kept hS.2.1).narrow (fun _ h => h.elim)) (rX_8 hK hP)) rfl rfl hl.1 rfl (lv_room (Nat.le_of_ble_eq_true rfl)) dX8_readOneOf_49 ⟨Nat.le_of_ble_eq_true rfl, Nat.le_of_ble_eq_true rfl⟩) (fun r82 hr82 => ?_)
                                                                              obtain ⟨hr82, xr82_0⟩ := hr82
                                                                              have : (17 : Int32).toInt = 17 := (by decide)
                                                                              have : (11 : Int32).toInt = 11 := (by decide)
                                                                              have xr82_0 : (((r82 : Int32).toInt = 1 ∧ WdG (fun j => ((fa 8 1) j).toInt) (n2 : Int32).toInt (r3 : Int32).toInt ((17 : Int32).toInt - (11 : Int32).toInt) (LsW 2 (11 : Int32).toInt)) ∨ ((r82 : Int32).toInt = 0 ∧ ¬ WdG (fun j => ((fa 8 1) j).toInt) (n2 : Int32).toInt (r3 : Int32).toInt ((17 : Int32).toInt - (11 : Int32).toInt) (LsW 2 (11 : Int32).toInt))) := xr82_0
                                                                              refine lv_if_eq (tgt := 62) hx hb dX8_readOneOf_52 (by decide) (fun c83 => ?_) (fun c83 => ?_)
                                                                              · have fc83 := z_eq (rfl : (r82).toInt = _) (by decide : (0 : Int32).toInt = 0) c83
                                                                                refine lv_iinc (v := 3) (lv' := [(3, .int 3), (5, .int 17), (4, .int 11), (2, .int r3), (0, .ref (g 11 4)), (1, .ref (ak 2))]) hx hb dX8_readOneOf_62 hl (k := 2) rfl (by decide) (by decide) rfl (fun ls hl => ?_)
                                                                                refine lv_iload hx hb dX8_readOneOf_65 (lv_at hl 1 rfl) ?_
                                                                                refine lv_iconst (v := 1) hx hb dX8_readOneOf_67 (by decide) ?_
                                                                                refine lv_iadd hx hb dX8_readOneOf_68 ?_
                                                                                refine lv_topi (fun v84 ev84 => ?_)
                                                                                obtain rfl : 18 = v84 := (ev84.trans (by decide)).symm
                                                                                refine lv_istore (lv' := [(4, .int 18), (3, .int 3), (5, .int 17), (2, .int r3), (0, .ref (g 11 4)), (1, .ref (ak 2))]) hx hb dX8_readOneOf_69 hl (by decide) rfl (fun ls hl => ?_)
                                                                                refine lv_iinc (v := 18) (lv' := [(5, .int 18), (4, .int 18), (3, .int 3), (2, .int r3), (0, .ref (g 11 4)), (1, .ref (ak 2))]) hx hb dX8_readOneOf_71 hl (k := 2) rfl (by decide) (by decide) rfl (fun ls hl => ?_)
                                                                                refine lv_goto (tgt := 22) hx hb dX8_readOneOf_74 (by decide) ?_
                                                                                refine lv_iload hx hb dX8_readOneOf_22 (lv_at hl 0 rfl) ?_
                                                                                refine lv_aload_n hx hb dX8_readOneOf_24 rfl (lv_at hl 5 rfl) ?_
                                                                                refine vp_callSi (W.runV (As := []) (rest := [.int 18]) ⟨hx, hb, hml, hown, ht⟩ (c_J0_length_8abf5_2 l dC dI ak av) (kV 0 ht m_705 m_706 m_707 m_91 m_708 rfl rfl hd_J0_length_8abf5_v ⟨Nat.le_of_ble_eq_true rfl, Nat.le_of_ble_eq_true rfl⟩) (vRZ noP (hK.sub (tys' := []) [] rfl) ((hZ.kept hS.2.1).narrow (fun _ h => h.elim)) (vk_recv hZ.1.2.2.2.2.2 (i := 2) (by decide) hS)) rfl rfl hl.1 rfl (lv_room (Nat.le_of_ble_eq_true rfl)) dX8_readOneOf_25 ⟨Nat.le_of_ble_eq_true rfl, Nat.le_of_ble_eq_true rfl⟩) (fun r85 hr85 => ?_)
                                                                                obtain rfl : 18 = r85 := hr85.symm
                                                                                refine lv_icmp_ge (tgt := 77) hx hb dX8_readOneOf_28 (by decide) (fun c86 => ?_) (fun c86 => ?_)
                                                                                · skip
                                                                                  refine lv_aload_n hx hb dX8_readOneOf_77 rfl (lv_at hl 4 rfl) ?_
                                                                                  refine lv_iconst (v := 1) hx hb dX8_readOneOf_78 (by decide) ?_
                                                                                  refine lv_aload_n hx hb dX8_readOneOf_79 rfl (lv_at hl 4 rfl) ?_
                                                                                  refine gX_8_5 hx hb ht hown hK hP m_235 (v := n2) rfl dX8_readOneOf_80 ?_
                                                                                  have hFc := free_all hD hS hA
                                                                                  refine va_calli (va_runV (As := [.int 1, .int n2]) (rest := []) ⟨hx, hb, hml, hown, ht⟩ (c_X8_fail_r l dC dI H.size h g ca (u2 iv 8 5 n2) lv fa la (IX_i (c := 8) (k := 5) hI (show inb (0, 200) n2 from ⟨by omega, by omega⟩)) 1 n2 ⟨by decide, by decide⟩ ⟨by omega, by omega⟩) (kV 2 ht m_757 m_759 m_21 m_82 m_760 rfl rfl hd_X8_fail_v ⟨Nat.le_of_ble_eq_true rfl, Nat.le_of_ble_eq_true rfl⟩) (vW hP hK hD (rX_8 hK hP)) rfl rfl hl.1 rfl (lv_room (Nat.le_of_ble_eq_true rfl)) dX8_readOneOf_83 ⟨Nat.le_of_ble_eq_true rfl, Nat.le_of_ble_eq_true rfl⟩) hS (fun q _ h => hFc q h) hFc (fun r87 u t H1 locs ht9 hvm hr87 hB hz1 hk1 hS => ?_)
                                                                                  obtain ⟨n88, n89, hn88, hn89, xr87_0, xr87_1, hr87, rfl⟩ := hr87
                                                                                  have hn88 : (-1) ≤ n88.toInt ∧ n88.toInt ≤ 200 := hn88
                                                                                  have hn89 : 0 ≤ n89.toInt ∧ n89.toInt ≤ 5 := hn89
                                                                                  obtain ⟨hP, hD⟩ := hB
                                                                                  rw [ht9] at hP
                                                                                  generalize H1 = H at hP hS ⊢
                                                                                  have hP : va_P (dC, dI) classes (WX h g ca (u2 (u2 (u2 iv 8 5 n2) 8 3 n88) 8 4 n89) lv fa la) H := hP
                                                                                  have hD : va_D A (WX h g ca (u2 (u2 (u2 iv 8 5 n2) 8 3 n88) 8 4 n89) lv fa la) := (show va_D _ (WX h g ca (u2 (u2 (u2 iv 8 5 n2) 8 3 n88) 8 4 n89) lv fa la) from hD).weaken (fun _ _ _ h => hFc _ h)
                                                                                  have : (1 : Int32).toInt = 1 := (by decide)
                                                                                  have xr87_0 : (n89 : Int32).toInt = (1 : Int32).toInt := xr87_0
                                                                                  have xr87_1 : (n88 : Int32).toInt = (n2 : Int32).toInt := xr87_1
                                                                                  refine lv_pop hx hb dX8_readOneOf_86 rfl ?_
                                                                                  refine lv_iconst (v := (-1)) hx hb dX8_readOneOf_87 (by decide) ?_
                                                                                  have : ((-1) : Int32).toInt = (-1) := (by decide)
                                                                                  have hP9 : va_P (dC, dI) classes (WX h g ca (u2 (u2 (u2 iv 8 3 n88) 8 4 n89) 8 5 n2) lv fa la) H := hP
                                                                                  have hD9 : va_D A (WX h g ca (u2 (u2 (u2 iv 8 3 n88) 8 4 n89) 8 5 n2) lv fa la) := hD
                                                                                  exact W.iret (v := (-1)) hx hb hr (fun t ht9 hW => ⟨⟨(-1), ((u2 (u2 (u2 iv 8 3 n88) 8 4 n89) 8 5 n2), lv, fa, la), rfl, ⟨n88, n89, n2, (show inb ((-1), 200) n88 from ⟨by omega, by omega⟩), (show inb (0, 5) n89 from ⟨by omega, by omega⟩), (show inb (0, 200) n2 from ⟨by omega, by omega⟩), (show ∃ s e : Int, Sk (fun j => ((fa 8 1) j).toInt) ((iv 8 2) : Int32).toInt (iv 8 5).toInt s ∧ Rn (fun j => ((fa 8 1) j).toInt) ((iv 8 2) : Int32).toInt 97 122 s e ∧ ((((-1) : Int32).toInt = -1 ∧ kwW (fun j => ((fa 8 1) j).toInt) s e = -1 ∧ (n89 : Int32).toInt = 1 ∧ (n88 : Int32).toInt = s) ∨ (0 ≤ ((-1) : Int32).toInt ∧ ((-1) : Int32).toInt = kwW (fun j => ((fa 8 1) j).toInt) s e ∧ (n89 : Int32).toInt = (iv 8 4).toInt ∧ (n88 : Int32).toInt = (iv 8 3).toInt ∧ (n2 : Int32).toInt = e)) from (by have g0 := ((cs_2_0 xr24_0).resolve_left (fun q => by omega)).2; have g1 := ((cs_2_5 xr51_0).resolve_left (fun q => by omega)).2; have g2 := ((cs_2_11 xr82_0).resolve_left (fun q => by omega)).2; exact ⟨_, _, xr1_0, xr3_0, Or.inl ⟨by omega, (by unfold kwW; rw [if_neg g0, if_neg g1, if_neg g2]), by omega, by omega⟩⟩)), ⟨by decide, by decide⟩, rfl⟩, by rw [ht9]; exact hP9, hD9⟩, hS.F ht9⟩) hS.2.2 dX8_readOneOf_88
                                                                                · exact absurd c86 (by decide)
                                                                              · have fc83 := z_ne (rfl : (r82).toInt = _) (by decide : (0 : Int32).toInt = 0) c83
                                                                                refine lv_aload_n hx hb dX8_readOneOf_55 rfl (lv_at hl 4 rfl) ?_
                                                                                refine lv_iload_n hx hb dX8_readOneOf_56 rfl (lv_at hl 3 rfl) ?_
                                                                                refine pX_8_5 (v := r3) hx hb ht hown hK hP hD hS m_235 dX8_readOneOf_57 (fun H locs hP hD hS => ?_)
                                                                                have hP : va_P (dC, dI) classes (WX h g ca (u2 iv 8 5 r3) lv fa la) H := hP
                                                                                have hD : va_D A (WX h g ca (u2 iv 8 5 r3) lv fa la) := hD
                                                                                refine lv_iload_n hx hb dX8_readOneOf_60 rfl (lv_at hl 2 rfl) ?_
                                                                                have : (2 : Int32).toInt = 2 := (by decide)
                                                                                have i_8_4 : 0 ≤ (iv 8 4).toInt ∧ (iv 8 4).toInt ≤ 5 := hI.1 8 4
                                                                                have i_8_3 : (-1) ≤ (iv 8 3).toInt ∧ (iv 8 3).toInt ≤ 200 := hI.1 8 3
                                                                                have hP9 : va_P (dC, dI) classes (WX h g ca (u2 (u2 (u2 iv 8 3 (iv 8 3)) 8 4 (iv 8 4)) 8 5 r3) lv fa la) H := hP
                                                                                have hD9 : va_D A (WX h g ca (u2 (u2 (u2 iv 8 3 (iv 8 3)) 8 4 (iv 8 4)) 8 5 r3) lv fa la) := hD
                                                                                exact W.iret (v := 2) hx hb hr (fun t ht9 hW => ⟨⟨2, ((u2 (u2 (u2 iv 8 3 (iv 8 3)) 8 4 (iv 8 4)) 8 5 r3), lv, fa, la), rfl, ⟨(iv 8 3), (iv 8 4), r3, (hI.1 8 3), (hI.1 8 4), (show inb (0, 200) r3 from ⟨by omega, by omega⟩), (show ∃ s e : Int, Sk (fun j => ((fa 8 1) j).toInt) ((iv 8 2) : Int32).toInt (iv 8 5).toInt s ∧ Rn (fun j => ((fa 8 1) j).toInt) ((iv 8 2) : Int32).toInt 97 122 s e ∧ (((2 : Int32).toInt = -1 ∧ kwW (fun j => ((fa 8 1) j).toInt) s e = -1 ∧ ((iv 8 4) : Int32).toInt = 1 ∧ ((iv 8 3) : Int32).toInt = s) ∨ (0 ≤ (2 : Int32).toInt ∧ (2 : Int32).toInt = kwW (fun j => ((fa 8 1) j).toInt) s e ∧ ((iv 8 4) : Int32).toInt = (iv 8 4).toInt ∧ ((iv 8 3) : Int32).toInt = (iv 8 3).toInt ∧ (r3 : Int32).toInt = e)) from (by have g0 := ((cs_2_0 xr24_0).resolve_left (fun q => by omega)).2; have g1 := ((cs_2_5 xr51_0).resolve_left (fun q => by omega)).2; have g2 := ((cs_2_11 xr82_0).resolve_right (fun q => by omega)).2; exact ⟨_, _, xr1_0, xr3_0, Or.inr ⟨by omega, (by unfold kwW; rw [if_neg g0, if_neg g1, if_pos g2]; omega), by omega, by omega, by omega⟩⟩)), ⟨by decide, by decide⟩, rfl⟩, by rw [ht9]; exact hP9, hD9⟩, hS.F ht9⟩) hS.2.2 dX8_readOneOf_61
                                                                        · exact absurd c77 (by decide)
                                                                    · exact absurd c73 (by decide)
                                                                · exact absurd c69 (by decide)
                                                            · exact absurd c65 (by decide)
                                                        · exact absurd c61 (by decide)
                                                    · exact absurd c57 (by decide)
                                                · have fc52 := z_ne (rfl : (r51).toInt = _) (by decide : (0 : Int32).toInt = 0) c52
                                                  refine lv_aload_n hx hb dX8_readOneOf_55 rfl (lv_at hl 4 rfl) ?_
                                                  refine lv_iload_n hx hb dX8_readOneOf_56 rfl (lv_at hl 3 rfl) ?_
                                                  refine pX_8_5 (v := r3) hx hb ht hown hK hP hD hS m_235 dX8_readOneOf_57 (fun H locs hP hD hS => ?_)
                                                  have hP : va_P (dC, dI) classes (WX h g ca (u2 iv 8 5 r3) lv fa la) H := hP
                                                  have hD : va_D A (WX h g ca (u2 iv 8 5 r3) lv fa la) := hD
                                                  refine lv_iload_n hx hb dX8_readOneOf_60 rfl (lv_at hl 2 rfl) ?_
                                                  have : (1 : Int32).toInt = 1 := (by decide)
                                                  have i_8_4 : 0 ≤ (iv 8 4).toInt ∧ (iv 8 4).toInt ≤ 5 := hI.1 8 4
                                                  have i_8_3 : (-1) ≤ (iv 8 3).toInt ∧ (iv 8 3).toInt ≤ 200 := hI.1 8 3
                                                  have hP9 : va_P (dC, dI) classes (WX h g ca (u2 (u2 (u2 iv 8 3 (iv 8 3)) 8 4 (iv 8 4)) 8 5 r3) lv fa la) H := hP
                                                  have hD9 : va_D A (WX h g ca (u2 (u2 (u2 iv 8 3 (iv 8 3)) 8 4 (iv 8 4)) 8 5 r3) lv fa la) := hD
                                                  exact W.iret (v := 1) hx hb hr (fun t ht9 hW => ⟨⟨1, ((u2 (u2 (u2 iv 8 3 (iv 8 3)) 8 4 (iv 8 4)) 8 5 r3), lv, fa, la), rfl, ⟨(iv 8 3), (iv 8 4), r3, (hI.1 8 3), (hI.1 8 4), (show inb (0, 200) r3 from ⟨by omega, by omega⟩), (show ∃ s e : Int, Sk (fun j => ((fa 8 1) j).toInt) ((iv 8 2) : Int32).toInt (iv 8 5).toInt s ∧ Rn (fun j => ((fa 8 1) j).toInt) ((iv 8 2) : Int32).toInt 97 122 s e ∧ (((1 : Int32).toInt = -1 ∧ kwW (fun j => ((fa 8 1) j).toInt) s e = -1 ∧ ((iv 8 4) : Int32).toInt = 1 ∧ ((iv 8 3) : Int32).toInt = s) ∨ (0 ≤ (1 : Int32).toInt ∧ (1 : Int32).toInt = kwW (fun j => ((fa 8 1) j).toInt) s e ∧ ((iv 8 4) : Int32).toInt = (iv 8 4).toInt ∧ ((iv 8 3) : Int32).toInt = (iv 8 3).toInt ∧ (r3 : Int32).toInt = e)) from (by have g0 := ((cs_2_0 xr24_0).resolve_left (fun q => by omega)).2; have g1 := ((cs_2_5 xr51_0).resolve_right (fun q => by omega)).2; exact ⟨_, _, xr1_0, xr3_0, Or.inr ⟨by omega, (by unfold kwW; rw [if_neg g0, if_pos g1]; omega), by omega, by omega, by omega⟩⟩)), ⟨by decide, by decide⟩, rfl⟩, by rw [ht9]; exact hP9, hD9⟩, hS.F ht9⟩) hS.2.2 dX8_readOneOf_61
                                          · exact absurd c46 (by decide)
                                      · exact absurd c42 (by decide)
                                  · exact absurd c38 (by decide)
                              · exact absurd c34 (by decide)
                          · exact absurd c30 (by decide)
                      · have fc25 := z_ne (rfl : (r24).toInt = _) (by decide : (0 : Int32).toInt = 0) c25
                        refine lv_aload_n hx hb dX8_readOneOf_55 rfl (lv_at hl 4 rfl) ?_
                        refine lv_iload_n hx hb dX8_readOneOf_56 rfl (lv_at hl 3 rfl) ?_
                        refine pX_8_5 (v := r3) hx hb ht hown hK hP hD hS m_235 dX8_readOneOf_57 (fun H locs hP hD hS => ?_)
                        have hP : va_P (dC, dI) classes (WX h g ca (u2 iv 8 5 r3) lv fa la) H := hP
                        have hD : va_D A (WX h g ca (u2 iv 8 5 r3) lv fa la) := hD
                        refine lv_iload_n hx hb dX8_readOneOf_60 rfl (lv_at hl 2 rfl) ?_
                        have i_8_4 : 0 ≤ (iv 8 4).toInt ∧ (iv 8 4).toInt ≤ 5 := hI.1 8 4
                        have i_8_3 : (-1) ≤ (iv 8 3).toInt ∧ (iv 8 3).toInt ≤ 200 := hI.1 8 3
                        have hP9 : va_P (dC, dI) classes (WX h g ca (u2 (u2 (u2 iv 8 3 (iv 8 3)) 8 4 (iv 8 4)) 8 5 r3) lv fa la) H := hP
                        have hD9 : va_D A (WX h g ca (u2 (u2 (u2 iv 8 3 (iv 8 3)) 8 4 (iv 8 4)) 8 5 r3) lv fa la) := hD
                        exact W.iret (v := 0) hx hb hr (fun t ht9 hW => ⟨⟨0, ((u2 (u2 (u2 iv 8 3 (iv 8 3)) 8 4 (iv 8 4)) 8 5 r3), lv, fa, la), rfl, ⟨(iv 8 3), (iv 8 4), r3, (hI.1 8 3), (hI.1 8 4), (show inb (0, 200) r3 from ⟨by omega, by omega⟩), (show ∃ s e : Int, Sk (fun j => ((fa 8 1) j).toInt) ((iv 8 2) : Int32).toInt (iv 8 5).toInt s ∧ Rn (fun j => ((fa 8 1) j).toInt) ((iv 8 2) : Int32).toInt 97 122 s e ∧ (((0 : Int32).toInt = -1 ∧ kwW (fun j => ((fa 8 1) j).toInt) s e = -1 ∧ ((iv 8 4) : Int32).toInt = 1 ∧ ((iv 8 3) : Int32).toInt = s) ∨ (0 ≤ (0 : Int32).toInt ∧ (0 : Int32).toInt = kwW (fun j => ((fa 8 1) j).toInt) s e ∧ ((iv 8 4) : Int32).toInt = (iv 8 4).toInt ∧ ((iv 8 3) : Int32).toInt = (iv 8 3).toInt ∧ (r3 : Int32).toInt = e)) from (by have g0 := ((cs_2_0 xr24_0).resolve_right (fun q => by omega)).2; exact ⟨_, _, xr1_0, xr3_0, Or.inr ⟨by omega, (by unfold kwW; rw [if_pos g0]; omega), by omega, by omega, by omega⟩⟩)), ⟨by decide, by decide⟩, rfl⟩, by rw [ht9]; exact hP9, hD9⟩, hS.F ht9⟩) hS.2.2 dX8_readOneOf_61
                · exact absurd c19 (by decide)
            · exact absurd c15 (by decide)
        · exact absurd c11 (by decide)
    · exact absurd c7 (by decide)
set_option maxHeartbeats 4000000 in
set_option maxRecDepth 100000 in
/-- X8_readOneOf -/
theorem c_X8_readOneOf_r3 (l : Launch) (dC : Nat → ClassId) (dI : Nat → Nat → Nat) (sz : Nat) (ak av : Nat → Nat) (h : Nat) (g : Nat → Nat → Nat) (ca : Nat → Nat → ClassId) (iv : Nat → Nat → Int32) (lv : Nat → Nat → Int64) (fa : Nat → Nat → Nat → Int32) (la : Nat → Nat → Nat → Int64) (hI : IX iv fa) : Met l yX8_readOneOf (wc yX8_readOneOf cX8_readOneOf 6 (some .int)) ({ frames := 5, cells := 0, slots := 0, locals := 110 } : Room) (pWZ ak av (dC, dI) classes (WX h g ca iv lv fa la) (TX ca) sz [.ref (g 11 4), .ref (ak 3)]) (va_Qi (fun r (u : SS) => ∃ (ni_8_3 : Int32) (ni_8_4 : Int32) (ni_8_5 : Int32), inb (bI 8 3) ni_8_3 ∧ inb (bI 8 4) ni_8_4 ∧ inb (bI 8 5) ni_8_5 ∧ (∃ s e : Int, Sk (fun j => ((fa 8 1) j).toInt) (iv 8 2).toInt (iv 8 5).toInt s ∧ Rn (fun j => ((fa 8 1) j).toInt) (iv 8 2).toInt 97 122 s e ∧ ((r.toInt = -1 ∧ ¬ w_to (fun j => ((fa 8 1) j).toInt) s e ∧ (ni_8_4).toInt = 1 ∧ (ni_8_3).toInt = s) ∨ (0 ≤ r.toInt ∧ w_to (fun j => ((fa 8 1) j).toInt) s e ∧ (ni_8_4).toInt = (iv 8 4).toInt ∧ (ni_8_3).toInt = (iv 8 3).toInt ∧ (ni_8_5).toInt = e))) ∧ ((-1) ≤ r.toInt ∧ r.toInt ≤ 0) ∧ u = ((u2 (u2 (u2 iv 8 3 ni_8_3) 8 4 ni_8_4) 8 5 ni_8_5), lv, fa, la)) (bX (dC, dI) h g ca (va_A (WX h g ca iv lv fa la) sz)) (va_A (WX h g ca iv lv fa la) sz)) 0 0 (va_A (WX h g ca iv lv fa la) sz) := by
  refine Met.ofW (cc := cX8_readOneOf) (maxL := 6) (ret := (some .int)) (by decide) rfl ?_
  intro p e s m args below meth c s₁ B hml hv
  obtain ⟨rfl, hsz, hP, hK, hD0, hZ⟩ := hv
  have hx := B.exec
  have hb := B.bytes
  have hr := B.returns
  have ht := tb_tl (atoms_spec (ws := wc yX8_readOneOf cX8_readOneOf 6 (some .int)) B.pre)
  have hown : s.vm.findClass RX8 = some m.cls := findClass_of_methodNamed B.named
  have hlocks := B.notSynchronized
  subst hsz
  have hD := hD0.self (sz := s.heap.size)
  generalize hAe : va_A (WX h g ca iv lv fa la) s.heap.size = A at hD hZ ⊢
  have hA : ∀ q : Nat, s.heap.size ≤ q → A q := fun q h => by rw [← hAe]; exact Or.inr h
  have hS : va_S A s.heap s.heap [] := va_S.rf
  have hl := lv_entry [.ref (g 11 4), .ref (ak 3)] (n := 6) (Nat.le_of_ble_eq_true rfl)
  rw [lg_entry_eq]
  generalize (lg_sl [.ref (g 11 4), .ref (ak 3)] ++ List.replicate (6 - (lg_sl [.ref (g 11 4), .ref (ak 3)]).length) Slot.unset).toArray = ls at hl ⊢
  have hl : lv_has ls 6 [(0, .ref (g 11 4)), (1, .ref (ak 3))] := hl
  refine lv_aload_n hx hb dX8_readOneOf_0 rfl (lv_at hl 0 rfl) ?_
  have i_8_5 : 0 ≤ (iv 8 5).toInt ∧ (iv 8 5).toInt ≤ 200 := hI.1 8 5
  have hFc := free_all hD hS hA
  refine va_calli (va_runV (As := []) (rest := []) ⟨hx, hb, hml, hown, ht⟩ (c_X8_skipBlanks_r l dC dI s.heap.size h g ca iv lv fa la hI) (kV 0 ht m_688 m_690 m_16 m_82 m_691 rfl rfl hd_X8_skipBlanks_v ⟨Nat.le_of_ble_eq_true rfl, Nat.le_of_ble_eq_true rfl⟩) (vW hP hK hD (rX_8 hK hP)) rfl rfl hl.1 rfl (lv_room (Nat.le_of_ble_eq_true rfl)) dX8_readOneOf_1 ⟨Nat.le_of_ble_eq_true rfl, Nat.le_of_ble_eq_true rfl⟩) hS (fun q _ h => hFc q h) hFc (fun r1 u t H1 locs ht9 hvm hr1 hB hz1 hk1 hS => ?_)
  obtain ⟨n2, hn2, xr1_0, xr1_1, hr1, rfl⟩ := hr1
  have hn2 : 0 ≤ n2.toInt ∧ n2.toInt ≤ 200 := hn2
  obtain ⟨hP, hD⟩ := hB
  rw [ht9] at hP
  generalize H1 = H at hP hS ⊢
  have hP : va_P (dC, dI) classes (WX h g ca (u2 iv 8 5 n2) lv fa la) H := hP
  have hD : va_D A (WX h g ca (u2 iv 8 5 n2) lv fa la) := (show va_D _ (WX h g ca (u2 iv 8 5 n2) lv fa la) from hD).weaken (fun _ _ _ h => hFc _ h)
  have i_8_2 : 0 ≤ (iv 8 2).toInt ∧ (iv 8 2).toInt ≤ 200 := hI.1 8 2
  have xr1_0 : Sk (fun j => ((fa 8 1) j).toInt) ((iv 8 2) : Int32).toInt ((iv 8 5) : Int32).toInt (n2 : Int32).toInt := xr1_0
  have xr1_1 : (((r1 : Int32).toInt = 1 ∧ (n2 : Int32).toInt < ((iv 8 2) : Int32).toInt) ∨ ((r1 : Int32).toInt = 0 ∧ ((iv 8 2) : Int32).toInt ≤ (n2 : Int32).toInt)) := xr1_1
  refine lv_pop hx hb dX8_readOneOf_4 rfl ?_
  refine lv_aload_n hx hb dX8_readOneOf_5 rfl (lv_at hl 0 rfl) ?_
  refine lv_bipush (v := 97) hx hb dX8_readOneOf_6 (by decide) ?_
  refine lv_bipush (v := 122) hx hb dX8_readOneOf_8 (by decide) ?_
  refine vp_callSi (W.runV (As := [.int 97, .int 122]) (rest := []) ⟨hx, hb, hml, hown, ht⟩ (c_X8_endOfRun_r97 l dC dI h g ca (u2 iv 8 5 n2) lv fa la (IX_i (c := 8) (k := 5) hI (show inb (0, 200) n2 from ⟨by omega, by omega⟩))) (kV 2 ht m_701 m_703 m_19 m_82 m_704 rfl rfl hd_X8_endOfRun_v ⟨Nat.le_of_ble_eq_true rfl, Nat.le_of_ble_eq_true rfl⟩) (vR hP hK (rX_8 hK hP)) rfl rfl hl.1 rfl (lv_room (Nat.le_of_ble_eq_true rfl)) dX8_readOneOf_10 ⟨Nat.le_of_ble_eq_true rfl, Nat.le_of_ble_eq_true rfl⟩) (fun r3 hr3 => ?_)
  obtain ⟨hr3, xr3_0, xr3_1⟩ := hr3
  have xr3_0 : Rn (fun j => ((fa 8 1) j).toInt) ((iv 8 2) : Int32).toInt 97 122 (n2 : Int32).toInt (r3 : Int32).toInt := xr3_0
  have xr3_1 : (n2 : Int32).toInt ≤ (r3 : Int32).toInt := xr3_1
  refine lv_istore_n (lv' := [(2, .int r3), (0, .ref (g 11 4)), (1, .ref (ak 3))]) hx hb dX8_readOneOf_13 rfl hl (by decide) rfl (fun ls hl => ?_)
  refine lv_iconst (v := 0) hx hb dX8_readOneOf_14 (by decide) ?_
  refine lv_istore_n (lv' := [(3, .int 0), (2, .int r3), (0, .ref (g 11 4)), (1, .ref (ak 3))]) hx hb dX8_readOneOf_15 rfl hl (by decide) rfl (fun ls hl => ?_)
  refine lv_iconst (v := 0) hx hb dX8_readOneOf_16 (by decide) ?_
  refine lv_istore (lv' := [(4, .int 0), (3, .int 0), (2, .int r3), (0, .ref (g 11 4)), (1, .ref (ak 3))]) hx hb dX8_readOneOf_17 hl (by decide) rfl (fun ls hl => ?_)
  refine lv_iconst (v := 0) hx hb dX8_readOneOf_19 (by decide) ?_
  refine lv_istore (lv' := [(5, .int 0), (4, .int 0), (3, .int 0), (2, .int r3), (0, .ref (g 11 4)), (1, .ref (ak 3))]) hx hb dX8_readOneOf_20 hl (by decide) rfl (fun ls hl => ?_)
  refine lv_iload hx hb dX8_readOneOf_22 (lv_at hl 0 rfl) ?_
  refine lv_aload_n hx hb dX8_readOneOf_24 rfl (lv_at hl 5 rfl) ?_
  refine vp_callSi (W.runV (As := []) (rest := [.int 0]) ⟨hx, hb, hml, hown, ht⟩ (c_J0_length_8abf5_3 l dC dI ak av) (kV 0 ht m_705 m_706 m_707 m_91 m_708 rfl rfl hd_J0_length_8abf5_v ⟨Nat.le_of_ble_eq_true rfl, Nat.le_of_ble_eq_true rfl⟩) (vRZ noP (hK.sub (tys' := []) [] rfl) ((hZ.kept hS.2.1).narrow (fun _ h => h.elim)) (vk_recv hZ.1.2.2.2.2.2 (i := 3) (by decide) hS)) rfl rfl hl.1 rfl (lv_room (Nat.le_of_ble_eq_true rfl)) dX8_readOneOf_25 ⟨Nat.le_of_ble_eq_true rfl, Nat.le_of_ble_eq_true rfl⟩) (fun r4 hr4 => ?_)
  obtain rfl : 3 = r4 := hr4.symm
  refine lv_icmp_ge (tgt := 77) hx hb dX8_readOneOf_28 (by decide) (fun c5 => ?_) (fun c5 => ?_)
  · exact absurd c5 (by decide)
  · skip
    refine lv_aload_n hx hb dX8_readOneOf_31 rfl (lv_at hl 5 rfl) ?_
    refine lv_iload hx hb dX8_readOneOf_32 (lv_at hl 0 rfl) ?_
    refine vp_callSi (W.runV (As := [.int 0]) (rest := []) ⟨hx, hb, hml, hown, ht⟩ (c_J0_charAt_5068e_3 l dC dI ak av 0 ⟨by decide, by decide⟩) (kV 1 ht m_715 m_716 m_717 m_91 m_718 rfl rfl hd_J0_charAt_5068e_v ⟨Nat.le_of_ble_eq_true rfl, Nat.le_of_ble_eq_true rfl⟩) (vRZ noP (hK.sub (tys' := []) [] rfl) ((hZ.kept hS.2.1).narrow (fun _ h => h.elim)) (vk_recv hZ.1.2.2.2.2.2 (i := 3) (by decide) hS)) rfl rfl hl.1 rfl (lv_room (Nat.le_of_ble_eq_true rfl)) dX8_readOneOf_34 ⟨Nat.le_of_ble_eq_true rfl, Nat.le_of_ble_eq_true rfl⟩) (fun r6 hr6 => ?_)
    obtain rfl : 116 = r6 := (hr6.trans (by decide)).symm
    refine lv_bipush (v := 32) hx hb dX8_readOneOf_37 (by decide) ?_
    refine lv_icmp_ne (tgt := 71) hx hb dX8_readOneOf_39 (by decide) (fun c7 => ?_) (fun c7 => ?_)
    · skip
      refine lv_iinc (v := 1) (lv' := [(5, .int 1), (4, .int 0), (3, .int 0), (2, .int r3), (0, .ref (g 11 4)), (1, .ref (ak 3))]) hx hb dX8_readOneOf_71 hl (k := 0) rfl (by decide) (by decide) rfl (fun ls hl => ?_)
      refine lv_goto (tgt := 22) hx hb dX8_readOneOf_74 (by decide) ?_
      refine lv_iload hx hb dX8_readOneOf_22 (lv_at hl 0 rfl) ?_
      refine lv_aload_n hx hb dX8_readOneOf_24 rfl (lv_at hl 5 rfl) ?_
      refine vp_callSi (W.runV (As := []) (rest := [.int 1]) ⟨hx, hb, hml, hown, ht⟩ (c_J0_length_8abf5_3 l dC dI ak av) (kV 0 ht m_705 m_706 m_707 m_91 m_708 rfl rfl hd_J0_length_8abf5_v ⟨Nat.le_of_ble_eq_true rfl, Nat.le_of_ble_eq_true rfl⟩) (vRZ noP (hK.sub (tys' := []) [] rfl) ((hZ.kept hS.2.1).narrow (fun _ h => h.elim)) (vk_recv hZ.1.2.2.2.2.2 (i := 3) (by decide) hS)) rfl rfl hl.1 rfl (lv_room (Nat.le_of_ble_eq_true rfl)) dX8_readOneOf_25 ⟨Nat.le_of_ble_eq_true rfl, Nat.le_of_ble_eq_true rfl⟩) (fun r8 hr8 => ?_)
      obtain rfl : 3 = r8 := hr8.symm
      refine lv_icmp_ge (tgt := 77) hx hb dX8_readOneOf_28 (by decide) (fun c9 => ?_) (fun c9 => ?_)
      · exact absurd c9 (by decide)
      · skip
        refine lv_aload_n hx hb dX8_readOneOf_31 rfl (lv_at hl 5 rfl) ?_
        refine lv_iload hx hb dX8_readOneOf_32 (lv_at hl 0 rfl) ?_
        refine vp_callSi (W.runV (As := [.int 1]) (rest := []) ⟨hx, hb, hml, hown, ht⟩ (c_J0_charAt_5068e_3 l dC dI ak av 1 ⟨by decide, by decide⟩) (kV 1 ht m_715 m_716 m_717 m_91 m_718 rfl rfl hd_J0_charAt_5068e_v ⟨Nat.le_of_ble_eq_true rfl, Nat.le_of_ble_eq_true rfl⟩) (vRZ noP (hK.sub (tys' := []) [] rfl) ((hZ.kept hS.2.1).narrow (fun _ h => h.elim)) (vk_recv hZ.1.2.2.2.2.2 (i := 3) (by decide) hS)) rfl rfl hl.1 rfl (lv_room (Nat.le_of_ble_eq_true rfl)) dX8_readOneOf_34 ⟨Nat.le_of_ble_eq_true rfl, Nat.le_of_ble_eq_true rfl⟩) (fun r10 hr10 => ?_)
        obtain rfl : 111 = r10 := (hr10.trans (by decide)).symm
        refine lv_bipush (v := 32) hx hb dX8_readOneOf_37 (by decide) ?_
        refine lv_icmp_ne (tgt := 71) hx hb dX8_readOneOf_39 (by decide) (fun c11 => ?_) (fun c11 => ?_)
        · skip
          refine lv_iinc (v := 2) (lv' := [(5, .int 2), (4, .int 0), (3, .int 0), (2, .int r3), (0, .ref (g 11 4)), (1, .ref (ak 3))]) hx hb dX8_readOneOf_71 hl (k := 0) rfl (by decide) (by decide) rfl (fun ls hl => ?_)
          refine lv_goto (tgt := 22) hx hb dX8_readOneOf_74 (by decide) ?_
          refine lv_iload hx hb dX8_readOneOf_22 (lv_at hl 0 rfl) ?_
          refine lv_aload_n hx hb dX8_readOneOf_24 rfl (lv_at hl 5 rfl) ?_
          refine vp_callSi (W.runV (As := []) (rest := [.int 2]) ⟨hx, hb, hml, hown, ht⟩ (c_J0_length_8abf5_3 l dC dI ak av) (kV 0 ht m_705 m_706 m_707 m_91 m_708 rfl rfl hd_J0_length_8abf5_v ⟨Nat.le_of_ble_eq_true rfl, Nat.le_of_ble_eq_true rfl⟩) (vRZ noP (hK.sub (tys' := []) [] rfl) ((hZ.kept hS.2.1).narrow (fun _ h => h.elim)) (vk_recv hZ.1.2.2.2.2.2 (i := 3) (by decide) hS)) rfl rfl hl.1 rfl (lv_room (Nat.le_of_ble_eq_true rfl)) dX8_readOneOf_25 ⟨Nat.le_of_ble_eq_true rfl, Nat.le_of_ble_eq_true rfl⟩) (fun r12 hr12 => ?_)
          obtain rfl : 3 = r12 := hr12.symm
          refine lv_icmp_ge (tgt := 77) hx hb dX8_readOneOf_28 (by decide) (fun c13 => ?_) (fun c13 => ?_)
          · exact absurd c13 (by decide)
          · skip
            refine lv_aload_n hx hb dX8_readOneOf_31 rfl (lv_at hl 5 rfl) ?_
            refine lv_iload hx hb dX8_readOneOf_32 (lv_at hl 0 rfl) ?_
            refine vp_callSi (W.runV (As := [.int 2]) (rest := []) ⟨hx, hb, hml, hown, ht⟩ (c_J0_charAt_5068e_3 l dC dI ak av 2 ⟨by decide, by decide⟩) (kV 1 ht m_715 m_716 m_717 m_91 m_718 rfl rfl hd_J0_charAt_5068e_v ⟨Nat.le_of_ble_eq_true rfl, Nat.le_of_ble_eq_true rfl⟩) (vRZ noP (hK.sub (tys' := []) [] rfl) ((hZ.kept hS.2.1).narrow (fun _ h => h.elim)) (vk_recv hZ.1.2.2.2.2.2 (i := 3) (by decide) hS)) rfl rfl hl.1 rfl (lv_room (Nat.le_of_ble_eq_true rfl)) dX8_readOneOf_34 ⟨Nat.le_of_ble_eq_true rfl, Nat.le_of_ble_eq_true rfl⟩) (fun r14 hr14 => ?_)
            obtain rfl : 32 = r14 := (hr14.trans (by decide)).symm
            refine lv_bipush (v := 32) hx hb dX8_readOneOf_37 (by decide) ?_
            refine lv_icmp_ne (tgt := 71) hx hb dX8_readOneOf_39 (by decide) (fun c15 => ?_) (fun c15 => ?_)
            · exact absurd rfl c15
            · skip
              refine lv_aload_n hx hb dX8_readOneOf_42 rfl (lv_at hl 4 rfl) ?_
              refine lv_aload_n hx hb dX8_readOneOf_43 rfl (lv_at hl 5 rfl) ?_
              refine lv_iload hx hb dX8_readOneOf_44 (lv_at hl 1 rfl) ?_
              refine lv_iload hx hb dX8_readOneOf_46 (lv_at hl 0 rfl) ?_
              refine lv_iload_n hx hb dX8_readOneOf_48 rfl (lv_at hl 3 rfl) ?_
              refine vp_callSi (W.runV (As := [.ref (ak 3), .int 0, .int 2, .int r3]) (rest := []) ⟨hx, hb, hml, hown, ht⟩ (c_X8_isSame_g3 l dC dI ak av h g ca (u2 iv 8 5 n2) lv fa la (IX_i (c := 8) (k := 5) hI (show inb (0, 200) n2 from ⟨by omega, by omega⟩)) 0 2 r3 ⟨by decide, by decide⟩ ⟨by decide, by decide⟩ ⟨by omega, by omega⟩) (kV 4 ht m_753 m_755 m_20 m_82 m_756 rfl rfl hd_X8_isSame_v ⟨Nat.le_of_ble_eq_true rfl, Nat.le_of_ble_eq_true rfl⟩) (vRZ hP hK ((hZ.kept hS.2.1).narrow (fun _ h => h.elim)) (rX_8 hK hP)) rfl rfl hl.1 rfl (lv_room (Nat.le_of_ble_eq_true rfl)) dX8_readOneOf_49 ⟨Nat.le_of_ble_eq_true rfl, Nat.le_of_ble_eq_true rfl⟩) (fun r16 hr16 => ?_)
              obtain ⟨hr16, xr16_0⟩ := hr16
              have : (2 : Int32).toInt = 2 := (by decide)
              have : (0 : Int32).toInt = 0 := (by decide)
              have xr16_0 : (((r16 : Int32).toInt = 1 ∧ WdG (fun j => ((fa 8 1) j).toInt) (n2 : Int32).toInt (r3 : Int32).toInt ((2 : Int32).toInt - (0 : Int32).toInt) (LsW 3 (0 : Int32).toInt)) ∨ ((r16 : Int32).toInt = 0 ∧ ¬ WdG (fun j => ((fa 8 1) j).toInt) (n2 : Int32).toInt (r3 : Int32).toInt ((2 : Int32).toInt - (0 : Int32).toInt) (LsW 3 (0 : Int32).toInt))) := xr16_0
              refine lv_if_eq (tgt := 62) hx hb dX8_readOneOf_52 (by decide) (fun c17 => ?_) (fun c17 => ?_)
              · have fc17 := z_eq (rfl : (r16).toInt = _) (by decide : (0 : Int32).toInt = 0) c17
                refine lv_iinc (v := 1) (lv' := [(3, .int 1), (5, .int 2), (4, .int 0), (2, .int r3), (0, .ref (g 11 4)), (1, .ref (ak 3))]) hx hb dX8_readOneOf_62 hl (k := 2) rfl (by decide) (by decide) rfl (fun ls hl => ?_)
                refine lv_iload hx hb dX8_readOneOf_65 (lv_at hl 1 rfl) ?_
                refine lv_iconst (v := 1) hx hb dX8_readOneOf_67 (by decide) ?_
                refine lv_iadd hx hb dX8_readOneOf_68 ?_
                refine lv_topi (fun v18 ev18 => ?_)
                obtain rfl : 3 = v18 := (ev18.trans (by decide)).symm
                refine lv_istore (lv' := [(4, .int 3), (3, .int 1), (5, .int 2), (2, .int r3), (0, .ref (g 11 4)), (1, .ref (ak 3))]) hx hb dX8_readOneOf_69 hl (by decide) rfl (fun ls hl => ?_)
                refine lv_iinc (v := 3) (lv' := [(5, .int 3), (4, .int 3), (3, .int 1), (2, .int r3), (0, .ref (g 11 4)), (1, .ref (ak 3))]) hx hb dX8_readOneOf_71 hl (k := 2) rfl (by decide) (by decide) rfl (fun ls hl => ?_)
                refine lv_goto (tgt := 22) hx hb dX8_readOneOf_74 (by decide) ?_
                refine lv_iload hx hb dX8_readOneOf_22 (lv_at hl 0 rfl) ?_
                refine lv_aload_n hx hb dX8_readOneOf_24 rfl (lv_at hl 5 rfl) ?_
                refine vp_callSi (W.runV (As := []) (rest := [.int 3]) ⟨hx, hb, hml, hown, ht⟩ (c_J0_length_8abf5_3 l dC dI ak av) (kV 0 ht m_705 m_706 m_707 m_91 m_708 rfl rfl hd_J0_length_8abf5_v ⟨Nat.le_of_ble_eq_true rfl, Nat.le_of_ble_eq_true rfl⟩) (vRZ noP (hK.sub (tys' := []) [] rfl) ((hZ.kept hS.2.1).narrow (fun _ h => h.elim)) (vk_recv hZ.1.2.2.2.2.2 (i := 3) (by decide) hS)) rfl rfl hl.1 rfl (lv_room (Nat.le_of_ble_eq_true rfl)) dX8_readOneOf_25 ⟨Nat.le_of_ble_eq_true rfl, Nat.le_of_ble_eq_true rfl⟩) (fun r19 hr19 => ?_)
                obtain rfl : 3 = r19 := hr19.symm
                refine lv_icmp_ge (tgt := 77) hx hb dX8_readOneOf_28 (by decide) (fun c20 => ?_) (fun c20 => ?_)
                · skip
                  refine lv_aload_n hx hb dX8_readOneOf_77 rfl (lv_at hl 4 rfl) ?_
                  refine lv_iconst (v := 1) hx hb dX8_readOneOf_78 (by decide) ?_
                  refine lv_aload_n hx hb dX8_readOneOf_79 rfl (lv_at hl 4 rfl) ?_
                  refine gX_8_5 hx hb ht hown hK hP m_235 (v := n2) rfl dX8_readOneOf_80 ?_
                  have hFc := free_all hD hS hA
                  refine va_calli (va_runV (As := [.int 1, .int n2]) (rest := []) ⟨hx, hb, hml, hown, ht⟩ (c_X8_fail_r l dC dI H.size h g ca (u2 iv 8 5 n2) lv fa la (IX_i (c := 8) (k := 5) hI (show inb (0, 200) n2 from ⟨by omega, by omega⟩)) 1 n2 ⟨by decide, by decide⟩ ⟨by omega, by omega⟩) (kV 2 ht m_757 m_759 m_21 m_82 m_760 rfl rfl hd_X8_fail_v ⟨Nat.le_of_ble_eq_true rfl, Nat.le_of_ble_eq_true rfl⟩) (vW hP hK hD (rX_8 hK hP)) rfl rfl hl.1 rfl (lv_room (Nat.le_of_ble_eq_true rfl)) dX8_readOneOf_83 ⟨Nat.le_of_ble_eq_true rfl, Nat.le_of_ble_eq_true rfl⟩) hS (fun q _ h => hFc q h) hFc (fun r21 u t H1 locs ht9 hvm hr21 hB hz1 hk1 hS => ?_)
                  obtain ⟨n22, n23, hn22, hn23, xr21_0, xr21_1, hr21, rfl⟩ := hr21
                  have hn22 : (-1) ≤ n22.toInt ∧ n22.toInt ≤ 200 := hn22
                  have hn23 : 0 ≤ n23.toInt ∧ n23.toInt ≤ 5 := hn23
                  obtain ⟨hP, hD⟩ := hB
                  rw [ht9] at hP
                  generalize H1 = H at hP hS ⊢
                  have hP : va_P (dC, dI) classes (WX h g ca (u2 (u2 (u2 iv 8 5 n2) 8 3 n22) 8 4 n23) lv fa la) H := hP
                  have hD : va_D A (WX h g ca (u2 (u2 (u2 iv 8 5 n2) 8 3 n22) 8 4 n23) lv fa la) := (show va_D _ (WX h g ca (u2 (u2 (u2 iv 8 5 n2) 8 3 n22) 8 4 n23) lv fa la) from hD).weaken (fun _ _ _ h => hFc _ h)
                  have : (1 : Int32).toInt = 1 := (by decide)
                  have xr21_0 : (n23 : Int32).toInt = (1 : Int32).toInt := xr21_0
                  have xr21_1 : (n22 : Int32).toInt = (n2 : Int32).toInt := xr21_1
                  refine lv_pop hx hb dX8_readOneOf_86 rfl ?_
                  refine lv_iconst (v := (-1)) hx hb dX8_readOneOf_87 (by decide) ?_
                  have : ((-1) : Int32).toInt = (-1) := (by decide)
                  have hP9 : va_P (dC, dI) classes (WX h g ca (u2 (u2 (u2 iv 8 3 n22) 8 4 n23) 8 5 n2) lv fa la) H := hP
                  have hD9 : va_D A (WX h g ca (u2 (u2 (u2 iv 8 3 n22) 8 4 n23) 8 5 n2) lv fa la) := hD
                  exact W.iret (v := (-1)) hx hb hr (fun t ht9 hW => ⟨⟨(-1), ((u2 (u2 (u2 iv 8 3 n22) 8 4 n23) 8 5 n2), lv, fa, la), rfl, ⟨n22, n23, n2, (show inb ((-1), 200) n22 from ⟨by omega, by omega⟩), (show inb (0, 5) n23 from ⟨by omega, by omega⟩), (show inb (0, 200) n2 from ⟨by omega, by omega⟩), (show ∃ s e : Int, Sk (fun j => ((fa 8 1) j).toInt) ((iv 8 2) : Int32).toInt (iv 8 5).toInt s ∧ Rn (fun j => ((fa 8 1) j).toInt) ((iv 8 2) : Int32).toInt 97 122 s e ∧ ((((-1) : Int32).toInt = -1 ∧ ¬ w_to (fun j => ((fa 8 1) j).toInt) s e ∧ (n23 : Int32).toInt = 1 ∧ (n22 : Int32).toInt = s) ∨ (0 ≤ ((-1) : Int32).toInt ∧ w_to (fun j => ((fa 8 1) j).toInt) s e ∧ (n23 : Int32).toInt = (iv 8 4).toInt ∧ (n22 : Int32).toInt = (iv 8 3).toInt ∧ (n2 : Int32).toInt = e)) from (by have g0 := ((cs_3_0 xr16_0).resolve_left (fun q => by omega)).2; exact ⟨_, _, xr1_0, xr3_0, Or.inl ⟨by omega, g0, by omega, by omega⟩⟩)), ⟨by decide, by decide⟩, rfl⟩, by rw [ht9]; exact hP9, hD9⟩, hS.F ht9⟩) hS.2.2 dX8_readOneOf_88
                · exact absurd c20 (by decide)
              · have fc17 := z_ne (rfl : (r16).toInt = _) (by decide : (0 : Int32).toInt = 0) c17
                refine lv_aload_n hx hb dX8_readOneOf_55 rfl (lv_at hl 4 rfl) ?_
                refine lv_iload_n hx hb dX8_readOneOf_56 rfl (lv_at hl 3 rfl) ?_
                refine pX_8_5 (v := r3) hx hb ht hown hK hP hD hS m_235 dX8_readOneOf_57 (fun H locs hP hD hS => ?_)
                have hP : va_P (dC, dI) classes (WX h g ca (u2 iv 8 5 r3) lv fa la) H := hP
                have hD : va_D A (WX h g ca (u2 iv 8 5 r3) lv fa la) := hD
                refine lv_iload_n hx hb dX8_readOneOf_60 rfl (lv_at hl 2 rfl) ?_
                have i_8_4 : 0 ≤ (iv 8 4).toInt ∧ (iv 8 4).toInt ≤ 5 := hI.1 8 4
                have i_8_3 : (-1) ≤ (iv 8 3).toInt ∧ (iv 8 3).toInt ≤ 200 := hI.1 8 3
                have hP9 : va_P (dC, dI) classes (WX h g ca (u2 (u2 (u2 iv 8 3 (iv 8 3)) 8 4 (iv 8 4)) 8 5 r3) lv fa la) H := hP
                have hD9 : va_D A (WX h g ca (u2 (u2 (u2 iv 8 3 (iv 8 3)) 8 4 (iv 8 4)) 8 5 r3) lv fa la) := hD
                exact W.iret (v := 0) hx hb hr (fun t ht9 hW => ⟨⟨0, ((u2 (u2 (u2 iv 8 3 (iv 8 3)) 8 4 (iv 8 4)) 8 5 r3), lv, fa, la), rfl, ⟨(iv 8 3), (iv 8 4), r3, (hI.1 8 3), (hI.1 8 4), (show inb (0, 200) r3 from ⟨by omega, by omega⟩), (show ∃ s e : Int, Sk (fun j => ((fa 8 1) j).toInt) ((iv 8 2) : Int32).toInt (iv 8 5).toInt s ∧ Rn (fun j => ((fa 8 1) j).toInt) ((iv 8 2) : Int32).toInt 97 122 s e ∧ (((0 : Int32).toInt = -1 ∧ ¬ w_to (fun j => ((fa 8 1) j).toInt) s e ∧ ((iv 8 4) : Int32).toInt = 1 ∧ ((iv 8 3) : Int32).toInt = s) ∨ (0 ≤ (0 : Int32).toInt ∧ w_to (fun j => ((fa 8 1) j).toInt) s e ∧ ((iv 8 4) : Int32).toInt = (iv 8 4).toInt ∧ ((iv 8 3) : Int32).toInt = (iv 8 3).toInt ∧ (r3 : Int32).toInt = e)) from (by have g0 := ((cs_3_0 xr16_0).resolve_right (fun q => by omega)).2; exact ⟨_, _, xr1_0, xr3_0, Or.inr ⟨by omega, g0, by omega, by omega, by omega⟩⟩)), ⟨by decide, by decide⟩, rfl⟩, by rw [ht9]; exact hP9, hD9⟩, hS.F ht9⟩) hS.2.2 dX8_readOneOf_61
        · exact absurd c11 (by decide)
    · exact absurd c7 (by decide)
