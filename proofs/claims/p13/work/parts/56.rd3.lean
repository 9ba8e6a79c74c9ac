/-! ===== rd3 ===== -/
set_option maxHeartbeats 4000000 in
set_option maxRecDepth 100000 in
/-- X8_readNumber -/
theorem c_X8_readNumber_r (l : Launch) (dC : Nat → ClassId) (dI : Nat → Nat → Nat) (sz : Nat) (ak av : Nat → Nat) (h : Nat) (g : Nat → Nat → Nat) (ca : Nat → Nat → ClassId) (iv : Nat → Nat → Int32) (lv : Nat → Nat → Int64) (fa : Nat → Nat → Nat → Int32) (la : Nat → Nat → Nat → Int64) (hI : IX iv fa) (a : Int32) (b : Int32) (p_0 : 0 ≤ a.toInt) : Met l yX8_readNumber (wc yX8_readNumber cX8_readNumber 7 (some .int)) ({ frames := 1, cells := 0, slots := 0, locals := 23 } : Room) (pWZ ak av (dC, dI) classes (WX h g ca iv lv fa la) (TX ca) sz [.ref (g 11 4), .int a, .int b]) (va_Qi (fun r (u : SS) => ∃ (ni_8_3 : Int32) (ni_8_4 : Int32) (ni_8_5 : Int32), inb (bI 8 3) ni_8_3 ∧ inb (bI 8 4) ni_8_4 ∧ inb (bI 8 5) ni_8_5 ∧ (((r.toInt = -1 ∧ 1 ≤ (ni_8_4).toInt ∧ Num (fun j => ((fa 8 1) j).toInt) (iv 8 2).toInt a.toInt b.toInt (iv 8 5).toInt (ni_8_4).toInt (ni_8_3).toInt 0 0) ∨ (0 ≤ r.toInt ∧ (ni_8_4).toInt = (iv 8 4).toInt ∧ (ni_8_3).toInt = (iv 8 3).toInt ∧ Num (fun j => ((fa 8 1) j).toInt) (iv 8 2).toInt a.toInt b.toInt (iv 8 5).toInt 0 0 r.toInt (ni_8_5).toInt))) ∧ (r.toInt ≤ 9999) ∧ ((-1) ≤ r.toInt ∧ r.toInt ≤ 9999) ∧ u = ((u2 (u2 (u2 iv 8 3 ni_8_3) 8 4 ni_8_4) 8 5 ni_8_5), lv, fa, la)) (bX (dC, dI) h g ca (va_A (WX h g ca iv lv fa la) sz)) (va_A (WX h g ca iv lv fa la) sz)) 0 0 (va_A (WX h g ca iv lv fa la) sz) := by
  refine Met.ofW (cc := cX8_readNumber) (maxL := 7) (ret := (some .int)) (by decide) rfl ?_
  intro p e s m args below meth c s₁ B hml hv
  obtain ⟨rfl, hsz, hP, hK, hD0, hZ⟩ := hv
  have hx := B.exec
  have hb := B.bytes
  have hr := B.returns
  have ht := tb_tl (atoms_spec (ws := wc yX8_readNumber cX8_readNumber 7 (some .int)) B.pre)
  have hown : s.vm.findClass RX8 = some m.cls := findClass_of_methodNamed B.named
  have hlocks := B.notSynchronized
  subst hsz
  have hD := hD0.self (sz := s.heap.size)
  generalize hAe : va_A (WX h g ca iv lv fa la) s.heap.size = A at hD hZ ⊢
  have hA : ∀ q : Nat, s.heap.size ≤ q → A q := fun q h => by rw [← hAe]; exact Or.inr h
  have hS : va_S A s.heap s.heap [] := va_S.rf
  have hl := lv_entry [.ref (g 11 4), .int a, .int b] (n := 7) (Nat.le_of_ble_eq_true rfl)
  rw [lg_entry_eq]
  generalize (lg_sl [.ref (g 11 4), .int a, .int b] ++ List.replicate (7 - (lg_sl [.ref (g 11 4), .int a, .int b]).length) Slot.unset).toArray = ls at hl ⊢
  have hl : lv_has ls 7 [(0, .ref (g 11 4)), (1, .int a), (2, .int b)] := hl
  refine lv_aload_n hx hb dX8_readNumber_0 rfl (lv_at hl 0 rfl) ?_
  have i_8_5 : 0 ≤ (iv 8 5).toInt ∧ (iv 8 5).toInt ≤ 200 := hI.1 8 5
  have hFc := free_all hD hS hA
  refine va_calli (va_runV (As := []) (rest := []) ⟨hx, hb, hml, hown, ht⟩ (c_X8_skipBlanks_r l dC dI s.heap.size h g ca iv lv fa la hI) (kV 0 ht m_688 m_690 m_16 m_82 m_691 rfl rfl hd_X8_skipBlanks_v ⟨Nat.le_of_ble_eq_true rfl, Nat.le_of_ble_eq_true rfl⟩) (vW hP hK hD (rX_8 hK hP)) rfl rfl hl.1 rfl (lv_room (Nat.le_of_ble_eq_true rfl)) dX8_readNumber_1 ⟨Nat.le_of_ble_eq_true rfl, Nat.le_of_ble_eq_true rfl⟩) hS (fun q _ h => hFc q h) hFc (fun r1 u t H1 locs ht9 hvm hr1 hB hz1 hk1 hS => ?_)
  obtain ⟨n2, hn2, xr1_0, xr1_1, hr1, rfl⟩ := hr1
  have hn2 : 0 ≤ n2.toInt ∧ n2.toInt ≤ 200 := hn2
  obtain ⟨hP, hD⟩ := hB
  rw [ht9] at hP
  generalize H1 = H at hP hS ⊢
  have hP : va_P (dC, dI) classes (WX h g ca (u2 iv 8 5 n2) lv fa la) H := hP
  have hD : va_D A (WX h g ca (u2 iv 8 5 n2) lv fa la) := (show va_D _ (WX h g ca (u2 iv 8 5 n2) lv fa la) from hD).weaken (fun _ _ _ h => hFc _ h)
  have i_8_2 : 0 ≤ (iv 8 2).toInt ∧ (iv 8 2).toInt ≤ 200 := hI.1 8 2
  have xr1_0 : Sk (fun j => ((fa 8 1) j).toInt) ((iv 8 2) : Int32).toInt ((iv 8 5) : Int32).toInt (n2 : Int32).toInt := xr1_0
  have xr1_1 : (((r1 : Int32).toInt = 1 ∧ (n2 : Int32).toInt < ((iv 8 2) : Int32).toInt) ∨ ((r1 : Int32).toInt = 0 ∧ ((iv 8 2) : Int32).toInt ≤ (n2 : Int32).toInt)) := xr1_1
  refine lv_pop hx hb dX8_readNumber_4 rfl ?_
  refine lv_aload_n hx hb dX8_readNumber_5 rfl (lv_at hl 0 rfl) ?_
  refine gX_8_5 hx hb ht hown hK hP m_235 (v := n2) rfl dX8_readNumber_6 ?_
  refine lv_istore_n (lv' := [(3, .int n2), (0, .ref (g 11 4)), (1, .int a), (2, .int b)]) hx hb dX8_readNumber_9 rfl hl (by decide) rfl (fun ls hl => ?_)
  refine lv_aload_n hx hb dX8_readNumber_10 rfl (lv_at hl 1 rfl) ?_
  refine lv_bipush (v := 48) hx hb dX8_readNumber_11 (by decide) ?_
  refine lv_bipush (v := 57) hx hb dX8_readNumber_13 (by decide) ?_
  refine vp_callSi (W.runV (As := [.int 48, .int 57]) (rest := []) ⟨hx, hb, hml, hown, ht⟩ (c_X8_endOfRun_r48 l dC dI h g ca (u2 iv 8 5 n2) lv fa la (IX_i (c := 8) (k := 5) hI (show inb (0, 200) n2 from ⟨by omega, by omega⟩))) (kV 2 ht m_701 m_703 m_19 m_82 m_704 rfl rfl hd_X8_endOfRun_v ⟨Nat.le_of_ble_eq_true rfl, Nat.le_of_ble_eq_true rfl⟩) (vR hP hK (rX_8 hK hP)) rfl rfl hl.1 rfl (lv_room (Nat.le_of_ble_eq_true rfl)) dX8_readNumber_15 ⟨Nat.le_of_ble_eq_true rfl, Nat.le_of_ble_eq_true rfl⟩) (fun r3 hr3 => ?_)
  obtain ⟨hr3, xr3_0, xr3_1⟩ := hr3
  have xr3_0 : Rn (fun j => ((fa 8 1) j).toInt) ((iv 8 2) : Int32).toInt 48 57 (n2 : Int32).toInt (r3 : Int32).toInt := xr3_0
  have xr3_1 : (n2 : Int32).toInt ≤ (r3 : Int32).toInt := xr3_1
  refine lv_istore (lv' := [(4, .int r3), (3, .int n2), (0, .ref (g 11 4)), (1, .int a), (2, .int b)]) hx hb dX8_readNumber_18 hl (by decide) rfl (fun ls hl => ?_)
  refine lv_iload hx hb dX8_readNumber_20 (lv_at hl 0 rfl) ?_
  refine lv_iload_n hx hb dX8_readNumber_22 rfl (lv_at hl 1 rfl) ?_
  refine lv_icmp_ne (tgt := 35) hx hb dX8_readNumber_23 (by decide) (fun c4 => ?_) (fun c4 => ?_)
  · have fc4 := z_ne (rfl : (r3).toInt = _) (rfl : (n2).toInt = _) c4
    refine lv_iconst (v := 0) hx hb dX8_readNumber_35 (by decide) ?_
    refine lv_istore (lv' := [(5, .int 0), (4, .int r3), (3, .int n2), (0, .ref (g 11 4)), (1, .int a), (2, .int b)]) hx hb dX8_readNumber_36 hl (by decide) rfl (fun ls hl => ?_)
    refine lv_iload_n hx hb dX8_readNumber_38 rfl (lv_at hl 2 rfl) ?_
    refine lv_istore (lv' := [(6, .int n2), (5, .int 0), (4, .int r3), (3, .int n2), (0, .ref (g 11 4)), (1, .int a), (2, .int b)]) hx hb dX8_readNumber_39 hl (by decide) rfl (fun ls hl => ?_)
    have lp161 : ∀ (nn161 : Nat) (x160_6 : Int32) (x160_5 : Int32), 0 ≤ x160_6.toInt ∧ x160_6.toInt ≤ 200 → 0 ≤ x160_5.toInt ∧ x160_5.toInt ≤ 9999 → ((x160_5 : Int32).toInt = dv (fun j => ((fa 8 1) j).toInt) ((n2 : Int32).toInt).toNat ((x160_6 : Int32).toInt - (n2 : Int32).toInt).toNat) → (n2 : Int32).toInt ≤ (x160_6 : Int32).toInt → (x160_6 : Int32).toInt ≤ (r3 : Int32).toInt → (x160_6 : Int32).toInt ≤ (n2 : Int32).toInt + 4 → 200 - x160_6.toInt < (nn161 : Int) → ∀ (H : Heap) (locs : List Loc), ∀ (ls : Array Slot), va_P (dC, dI) classes (WX h g ca (u2 iv 8 5 n2) lv fa la) H → va_D A (WX h g ca (u2 iv 8 5 n2) lv fa la) → va_S A s.heap H locs → lv_has ls 7 [(6, .int x160_6), (5, .int x160_5), (4, .int r3), (3, .int n2), (0, .ref (g 11 4)), (1, .int a), (2, .int b)] → W p l e ({ frames := 1, cells := 0, slots := 0, locals := 23 } : Room) s m ([.ref (g 11 4), .int a, .int b] : List Value).toArray below meth c H locs 0 0 (MQ below (va_Qi (fun r (u : SS) => ∃ (ni_8_3 : Int32) (ni_8_4 : Int32) (ni_8_5 : Int32), inb (bI 8 3) ni_8_3 ∧ inb (bI 8 4) ni_8_4 ∧ inb (bI 8 5) ni_8_5 ∧ (((r.toInt = -1 ∧ 1 ≤ (ni_8_4).toInt ∧ Num (fun j => ((fa 8 1) j).toInt) (iv 8 2).toInt a.toInt b.toInt (iv 8 5).toInt (ni_8_4).toInt (ni_8_3).toInt 0 0) ∨ (0 ≤ r.toInt ∧ (ni_8_4).toInt = (iv 8 4).toInt ∧ (ni_8_3).toInt = (iv 8 3).toInt ∧ Num (fun j => ((fa 8 1) j).toInt) (iv 8 2).toInt a.toInt b.toInt (iv 8 5).toInt 0 0 r.toInt (ni_8_5).toInt))) ∧ (r.toInt ≤ 9999) ∧ ((-1) ≤ r.toInt ∧ r.toInt ≤ 9999) ∧ u = ((u2 (u2 (u2 iv 8 3 ni_8_3) 8 4 ni_8_4) 8 5 ni_8_5), lv, fa, la)) (bX (dC, dI) h g ca A) A) ([.ref (g 11 4), .int a, .int b] : List Value).toArray s 0 0 A) (F0 m 41 ls []) := by
      intro nn161
      induction nn161 with
      | zero => intro x160_6 x160_5 hx160_6 hx160_5 hq161_0 hq161_1 hq161_2 hq161_3 hm161; exfalso; omega
      | succ nn161 ih161 =>
        intro x160_6 x160_5 hx160_6 hx160_5 hq161_0 hq161_1 hq161_2 hq161_3 hm161 H locs ls hP hD hS hl
        refine lv_iload hx hb dX8_readNumber_41 (lv_at hl 0 rfl) ?_
        refine lv_iload hx hb dX8_readNumber_43 (lv_at hl 2 rfl) ?_
        refine lv_icmp_ge (tgt := 80) hx hb dX8_readNumber_45 (by decide) (fun c162 => ?_) (fun c162 => ?_)
        · have fc162 := z_le (rfl : (r3).toInt = _) (rfl : (x160_6).toInt = _) c162
          refine lv_iload hx hb dX8_readNumber_80 (lv_at hl 2 rfl) ?_
          refine lv_iload_n hx hb dX8_readNumber_82 rfl (lv_at hl 3 rfl) ?_
          refine lv_isub hx hb dX8_readNumber_83 ?_
          refine lv_topi (fun v163 ev163 => ?_)
          have tv163 := z_sub ev163 (rfl : (r3).toInt = _) (rfl : (n2).toInt = _) (by omega) (by omega)
          refine lv_iconst (v := 4) hx hb dX8_readNumber_84 (by decide) ?_
          refine lv_icmp_gt (tgt := 98) hx hb dX8_readNumber_85 (by decide) (fun c164 => ?_) (fun c164 => ?_)
          · have fc164 := z_lt (by decide : (4 : Int32).toInt = 4) (rfl : (v163).toInt = _) c164
            refine lv_aload_n hx hb dX8_readNumber_98 rfl (lv_at hl 4 rfl) ?_
            refine lv_iconst (v := 2) hx hb dX8_readNumber_99 (by decide) ?_
            refine lv_iload_n hx hb dX8_readNumber_100 rfl (lv_at hl 3 rfl) ?_
            have hFc := free_all hD hS hA
            refine va_calli (va_runV (As := [.int 2, .int n2]) (rest := []) ⟨hx, hb, hml, hown, ht⟩ (c_X8_fail_r l dC dI H.size h g ca (u2 iv 8 5 n2) lv fa la (IX_i (c := 8) (k := 5) hI (show inb (0, 200) n2 from ⟨by omega, by omega⟩)) 2 n2 ⟨by decide, by decide⟩ ⟨by omega, by omega⟩) (kV 2 ht m_757 m_759 m_21 m_82 m_760 rfl rfl hd_X8_fail_v ⟨Nat.le_of_ble_eq_true rfl, Nat.le_of_ble_eq_true rfl⟩) (vW hP hK hD (rX_8 hK hP)) rfl rfl hl.1 rfl (lv_room (Nat.le_of_ble_eq_true rfl)) dX8_readNumber_101 ⟨Nat.le_of_ble_eq_true rfl, Nat.le_of_ble_eq_true rfl⟩) hS (fun q _ h => hFc q h) hFc (fun r165 u t H1 locs ht9 hvm hr165 hB hz1 hk1 hS => ?_)
            obtain ⟨n166, n167, hn166, hn167, xr165_0, xr165_1, hr165, rfl⟩ := hr165
            have hn166 : (-1) ≤ n166.toInt ∧ n166.toInt ≤ 200 := hn166
            have hn167 : 0 ≤ n167.toInt ∧ n167.toInt ≤ 5 := hn167
            obtain ⟨hP, hD⟩ := hB
            rw [ht9] at hP
            generalize H1 = H at hP hS ⊢
            have hP : va_P (dC, dI) classes (WX h g ca (u2 (u2 (u2 iv 8 5 n2) 8 3 n166) 8 4 n167) lv fa la) H := hP
            have hD : va_D A (WX h g ca (u2 (u2 (u2 iv 8 5 n2) 8 3 n166) 8 4 n167) lv fa la) := (show va_D _ (WX h g ca (u2 (u2 (u2 iv 8 5 n2) 8 3 n166) 8 4 n167) lv fa la) from hD).weaken (fun _ _ _ h => hFc _ h)
            have : (2 : Int32).toInt = 2 := (by decide)
            have xr165_0 : (n167 : Int32).toInt = (2 : Int32).toInt := xr165_0
            have xr165_1 : (n166 : Int32).toInt = (n2 : Int32).toInt := xr165_1
            refine lv_pop hx hb dX8_readNumber_104 rfl ?_
            refine lv_iconst (v := (-1)) hx hb dX8_readNumber_105 (by decide) ?_
            have : ((-1) : Int32).toInt = (-1) := (by decide)
            have hP9 : va_P (dC, dI) classes (WX h g ca (u2 (u2 (u2 iv 8 3 n166) 8 4 n167) 8 5 n2) lv fa la) H := hP
            have hD9 : va_D A (WX h g ca (u2 (u2 (u2 iv 8 3 n166) 8 4 n167) 8 5 n2) lv fa la) := hD
            exact W.iret (v := (-1)) hx hb hr (fun t ht9 hW => ⟨⟨(-1), ((u2 (u2 (u2 iv 8 3 n166) 8 4 n167) 8 5 n2), lv, fa, la), rfl, ⟨n166, n167, n2, (show inb ((-1), 200) n166 from ⟨by omega, by omega⟩), (show inb (0, 5) n167 from ⟨by omega, by omega⟩), (show inb (0, 200) n2 from ⟨by omega, by omega⟩), (show ((((-1) : Int32).toInt = -1 ∧ 1 ≤ (n167 : Int32).toInt ∧ Num (fun j => ((fa 8 1) j).toInt) ((iv 8 2) : Int32).toInt (a).toInt (b).toInt (iv 8 5).toInt (n167 : Int32).toInt (n166 : Int32).toInt 0 0) ∨ (0 ≤ ((-1) : Int32).toInt ∧ (n167 : Int32).toInt = (iv 8 4).toInt ∧ (n166 : Int32).toInt = (iv 8 3).toInt ∧ Num (fun j => ((fa 8 1) j).toInt) ((iv 8 2) : Int32).toInt (a).toInt (b).toInt (iv 8 5).toInt 0 0 ((-1) : Int32).toInt (n2 : Int32).toInt)) from (by exact Or.inl ⟨by omega, by omega, _, _, xr1_0, xr3_0, Or.inr (Or.inl ⟨by omega, (fun q => by omega), by omega, by omega⟩)⟩)), (show ((-1) : Int32).toInt ≤ 9999 from by omega), ⟨by decide, by decide⟩, rfl⟩, by rw [ht9]; exact hP9, hD9⟩, hS.F ht9⟩) hS.2.2 dX8_readNumber_106
          · have fc164 := z_nlt (by decide : (4 : Int32).toInt = 4) (rfl : (v163).toInt = _) c164
            refine lv_iload hx hb dX8_readNumber_88 (lv_at hl 1 rfl) ?_
            refine lv_iload_n hx hb dX8_readNumber_90 rfl (lv_at hl 5 rfl) ?_
            refine lv_iload_n hx hb dX8_readNumber_91 rfl (lv_at hl 6 rfl) ?_
            refine vp_callSi (run_of (va_runSN (As := [.int x160_5, .int a, .int b]) (rest := []) ⟨hx, hb, hml, hown, ht⟩ (c_X11_within l dC dI x160_5 a b (x160_5.toInt) (a.toInt) (b.toInt) (rfl : (x160_5).toInt = _) (rfl : (a).toInt = _) (rfl : (b).toInt = _)) ⟨va_cnB 3 ht (tb_wc m_455) rfl rfl rfl hZ.2.2.2.2.2.1 (ht _ m_77) hd_X11_within_i ⟨Nat.le_of_ble_eq_true rfl, Nat.le_of_ble_eq_true rfl⟩, ht _ m_454, trivial⟩ (sR noP (hK.sub (tys' := []) [] rfl)) rfl rfl hl.1 rfl (lv_room (Nat.le_of_ble_eq_true rfl)) dX8_readNumber_92 ⟨Nat.le_of_ble_eq_true rfl, Nat.le_of_ble_eq_true rfl⟩)) (fun r168 hr168 => ?_)
            rcases hr168 with ⟨rfl, fr168⟩ | ⟨rfl, fr168⟩
            · skip
              refine lv_if_ne (tgt := 107) hx hb dX8_readNumber_95 (by decide) (fun c169 => ?_) (fun c169 => ?_)
              · skip
                refine lv_aload_n hx hb dX8_readNumber_107 rfl (lv_at hl 4 rfl) ?_
                refine lv_iload hx hb dX8_readNumber_108 (lv_at hl 2 rfl) ?_
                refine pX_8_5 (v := r3) hx hb ht hown hK hP hD hS m_235 dX8_readNumber_110 (fun H locs hP hD hS => ?_)
                have hP : va_P (dC, dI) classes (WX h g ca (u2 iv 8 5 r3) lv fa la) H := hP
                have hD : va_D A (WX h g ca (u2 iv 8 5 r3) lv fa la) := hD
                refine lv_iload hx hb dX8_readNumber_113 (lv_at hl 1 rfl) ?_
                have i_8_4 : 0 ≤ (iv 8 4).toInt ∧ (iv 8 4).toInt ≤ 5 := hI.1 8 4
                have i_8_3 : (-1) ≤ (iv 8 3).toInt ∧ (iv 8 3).toInt ≤ 200 := hI.1 8 3
                have hP9 : va_P (dC, dI) classes (WX h g ca (u2 (u2 (u2 iv 8 3 (iv 8 3)) 8 4 (iv 8 4)) 8 5 r3) lv fa la) H := hP
                have hD9 : va_D A (WX h g ca (u2 (u2 (u2 iv 8 3 (iv 8 3)) 8 4 (iv 8 4)) 8 5 r3) lv fa la) := hD
                exact W.iret (v := x160_5) hx hb hr (fun t ht9 hW => ⟨⟨x160_5, ((u2 (u2 (u2 iv 8 3 (iv 8 3)) 8 4 (iv 8 4)) 8 5 r3), lv, fa, la), rfl, ⟨(iv 8 3), (iv 8 4), r3, (hI.1 8 3), (hI.1 8 4), (show inb (0, 200) r3 from ⟨by omega, by omega⟩), (show (((x160_5 : Int32).toInt = -1 ∧ 1 ≤ ((iv 8 4) : Int32).toInt ∧ Num (fun j => ((fa 8 1) j).toInt) ((iv 8 2) : Int32).toInt (a).toInt (b).toInt (iv 8 5).toInt ((iv 8 4) : Int32).toInt ((iv 8 3) : Int32).toInt 0 0) ∨ (0 ≤ (x160_5 : Int32).toInt ∧ ((iv 8 4) : Int32).toInt = (iv 8 4).toInt ∧ ((iv 8 3) : Int32).toInt = (iv 8 3).toInt ∧ Num (fun j => ((fa 8 1) j).toInt) ((iv 8 2) : Int32).toInt (a).toInt (b).toInt (iv 8 5).toInt 0 0 (x160_5 : Int32).toInt (r3 : Int32).toInt)) from (by have hq9 := hq161_0; have he9 : (x160_6 : Int32).toInt = (r3 : Int32).toInt := (by omega); rw [he9] at hq9; exact Or.inr ⟨by omega, by omega, by omega, _, _, xr1_0, xr3_0, Or.inr (Or.inr ⟨by omega, ⟨by omega, by omega, by omega⟩, by omega, by omega, by omega⟩)⟩)), (show (x160_5 : Int32).toInt ≤ 9999 from by omega), ⟨by omega, by omega⟩, rfl⟩, by rw [ht9]; exact hP9, hD9⟩, hS.F ht9⟩) hS.2.2 dX8_readNumber_115
              · exact absurd c169 (by decide)
            · skip
              refine lv_if_ne (tgt := 107) hx hb dX8_readNumber_95 (by decide) (fun c170 => ?_) (fun c170 => ?_)
              · exact absurd rfl c170
              · skip
                refine lv_aload_n hx hb dX8_readNumber_98 rfl (lv_at hl 4 rfl) ?_
                refine lv_iconst (v := 2) hx hb dX8_readNumber_99 (by decide) ?_
                refine lv_iload_n hx hb dX8_readNumber_100 rfl (lv_at hl 3 rfl) ?_
                have hFc := free_all hD hS hA
                refine va_calli (va_runV (As := [.int 2, .int n2]) (rest := []) ⟨hx, hb, hml, hown, ht⟩ (c_X8_fail_r l dC dI H.size h g ca (u2 iv 8 5 n2) lv fa la (IX_i (c := 8) (k := 5) hI (show inb (0, 200) n2 from ⟨by omega, by omega⟩)) 2 n2 ⟨by decide, by decide⟩ ⟨by omega, by omega⟩) (kV 2 ht m_757 m_759 m_21 m_82 m_760 rfl rfl hd_X8_fail_v ⟨Nat.le_of_ble_eq_true rfl, Nat.le_of_ble_eq_true rfl⟩) (vW hP hK hD (rX_8 hK hP)) rfl rfl hl.1 rfl (lv_room (Nat.le_of_ble_eq_true rfl)) dX8_readNumber_101 ⟨Nat.le_of_ble_eq_true rfl, Nat.le_of_ble_eq_true rfl⟩) hS (fun q _ h => hFc q h) hFc (fun r171 u t H1 locs ht9 hvm hr171 hB hz1 hk1 hS => ?_)
                obtain ⟨n172, n173, hn172, hn173, xr171_0, xr171_1, hr171, rfl⟩ := hr171
                have hn172 : (-1) ≤ n172.toInt ∧ n172.toInt ≤ 200 := hn172
                have hn173 : 0 ≤ n173.toInt ∧ n173.toInt ≤ 5 := hn173
                obtain ⟨hP, hD⟩ := hB
                rw [ht9] at hP
                generalize H1 = H at hP hS ⊢
                have hP : va_P (dC, dI) classes (WX h g ca (u2 (u2 (u2 iv 8 5 n2) 8 3 n172) 8 4 n173) lv fa la) H := hP
                have hD : va_D A (WX h g ca (u2 (u2 (u2 iv 8 5 n2) 8 3 n172) 8 4 n173) lv fa la) := (show va_D _ (WX h g ca (u2 (u2 (u2 iv 8 5 n2) 8 3 n172) 8 4 n173) lv fa la) from hD).weaken (fun _ _ _ h => hFc _ h)
                have : (2 : Int32).toInt = 2 := (by decide)
                have xr171_0 : (n173 : Int32).toInt = (2 : Int32).toInt := xr171_0
                have xr171_1 : (n172 : Int32).toInt = (n2 : Int32).toInt := xr171_1
                refine lv_pop hx hb dX8_readNumber_104 rfl ?_
                refine lv_iconst (v := (-1)) hx hb dX8_readNumber_105 (by decide) ?_
                have : ((-1) : Int32).toInt = (-1) := (by decide)
                have hP9 : va_P (dC, dI) classes (WX h g ca (u2 (u2 (u2 iv 8 3 n172) 8 4 n173) 8 5 n2) lv fa la) H := hP
                have hD9 : va_D A (WX h g ca (u2 (u2 (u2 iv 8 3 n172) 8 4 n173) 8 5 n2) lv fa la) := hD
                exact W.iret (v := (-1)) hx hb hr (fun t ht9 hW => ⟨⟨(-1), ((u2 (u2 (u2 iv 8 3 n172) 8 4 n173) 8 5 n2), lv, fa, la), rfl, ⟨n172, n173, n2, (show inb ((-1), 200) n172 from ⟨by omega, by omega⟩), (show inb (0, 5) n173 from ⟨by omega, by omega⟩), (show inb (0, 200) n2 from ⟨by omega, by omega⟩), (show ((((-1) : Int32).toInt = -1 ∧ 1 ≤ (n173 : Int32).toInt ∧ Num (fun j => ((fa 8 1) j).toInt) ((iv 8 2) : Int32).toInt (a).toInt (b).toInt (iv 8 5).toInt (n173 : Int32).toInt (n172 : Int32).toInt 0 0) ∨ (0 ≤ ((-1) : Int32).toInt ∧ (n173 : Int32).toInt = (iv 8 4).toInt ∧ (n172 : Int32).toInt = (iv 8 3).toInt ∧ Num (fun j => ((fa 8 1) j).toInt) ((iv 8 2) : Int32).toInt (a).toInt (b).toInt (iv 8 5).toInt 0 0 ((-1) : Int32).toInt (n2 : Int32).toInt)) from (by have hq9 := hq161_0; have he9 : (x160_6 : Int32).toInt = (r3 : Int32).toInt := (by omega); rw [he9] at hq9; exact Or.inl ⟨by omega, by omega, _, _, xr1_0, xr3_0, Or.inr (Or.inl ⟨by omega, (fun q => by omega), by omega, by omega⟩)⟩)), (show ((-1) : Int32).toInt ≤ 9999 from by omega), ⟨by decide, by decide⟩, rfl⟩, by rw [ht9]; exact hP9, hD9⟩, hS.F ht9⟩) hS.2.2 dX8_readNumber_106
        · have fc162 := z_nle (rfl : (r3).toInt = _) (rfl : (x160_6).toInt = _) c162
          refine lv_iload hx hb dX8_readNumber_48 (lv_at hl 0 rfl) ?_
          refine lv_iload_n hx hb dX8_readNumber_50 rfl (lv_at hl 3 rfl) ?_
          refine lv_iconst (v := 4) hx hb dX8_readNumber_51 (by decide) ?_
          refine lv_iadd hx hb dX8_readNumber_52 ?_
          refine lv_topi (fun v174 ev174 => ?_)
          have tv174 := z_add ev174 (rfl : (n2).toInt = _) (by decide : (4 : Int32).toInt = 4) (by omega) (by omega)
          refine lv_icmp_ge (tgt := 80) hx hb dX8_readNumber_53 (by decide) (fun c175 => ?_) (fun c175 => ?_)
          · have fc175 := z_le (rfl : (v174).toInt = _) (rfl : (x160_6).toInt = _) c175
            refine lv_iload hx hb dX8_readNumber_80 (lv_at hl 2 rfl) ?_
            refine lv_iload_n hx hb dX8_readNumber_82 rfl (lv_at hl 3 rfl) ?_
            refine lv_isub hx hb dX8_readNumber_83 ?_
            refine lv_topi (fun v176 ev176 => ?_)
            have tv176 := z_sub ev176 (rfl : (r3).toInt = _) (rfl : (n2).toInt = _) (by omega) (by omega)
            refine lv_iconst (v := 4) hx hb dX8_readNumber_84 (by decide) ?_
            refine lv_icmp_gt (tgt := 98) hx hb dX8_readNumber_85 (by decide) (fun c177 => ?_) (fun c177 => ?_)
            · have fc177 := z_lt (by decide : (4 : Int32).toInt = 4) (rfl : (v176).toInt = _) c177
              refine lv_aload_n hx hb dX8_readNumber_98 rfl (lv_at hl 4 rfl) ?_
              refine lv_iconst (v := 2) hx hb dX8_readNumber_99 (by decide) ?_
              refine lv_iload_n hx hb dX8_readNumber_100 rfl (lv_at hl 3 rfl) ?_
              have hFc := free_all hD hS hA
              refine va_calli (va_runV (As := [.int 2, .int n2]) (rest := []) ⟨hx, hb, hml, hown, ht⟩ (c_X8_fail_r l dC dI H.size h g ca (u2 iv 8 5 n2) lv fa la (IX_i (c := 8) (k := 5) hI (show inb (0, 200) n2 from ⟨by omega, by omega⟩)) 2 n2 ⟨by decide, by decide⟩ ⟨by omega, by omega⟩) (kV 2 ht m_757 m_759 m_21 m_82 m_760 rfl rfl hd_X8_fail_v ⟨Nat.le_of_ble_eq_true rfl, Nat.le_of_ble_eq_true rfl⟩) (vW hP hK hD (rX_8 hK hP)) rfl rfl hl.1 rfl (lv_room (Nat.le_of_ble_eq_true rfl)) dX8_readNumber_101 ⟨Nat.le_of_ble_eq_true rfl, Nat.le_of_ble_eq_true rfl⟩) hS (fun q _ h => hFc q h) hFc (fun r178 u t H1 locs ht9 hvm hr178 hB hz1 hk1 hS => ?_)
              obtain ⟨n179, n180, hn179, hn180, xr178_0, xr178_1, hr178, rfl⟩ := hr178
              have hn179 : (-1) ≤ n179.toInt ∧ n179.toInt ≤ 200 := hn179
              have hn180 : 0 ≤ n180.toInt ∧ n180.toInt ≤ 5 := hn180
              obtain ⟨hP, hD⟩ := hB
              rw [ht9] at hP
              generalize H1 = H at hP hS ⊢
              have hP : va_P (dC, dI) classes (WX h g ca (u2 (u2 (u2 iv 8 5 n2) 8 3 n179) 8 4 n180) lv fa la) H := hP
              have hD : va_D A (WX h g ca (u2 (u2 (u2 iv 8 5 n2) 8 3 n179) 8 4 n180) lv fa la) := (show va_D _ (WX h g ca (u2 (u2 (u2 iv 8 5 n2) 8 3 n179) 8 4 n180) lv fa la) from hD).weaken (fun _ _ _ h => hFc _ h)
              have : (2 : Int32).toInt = 2 := (by decide)
              have xr178_0 : (n180 : Int32).toInt = (2 : Int32).toInt := xr178_0
              have xr178_1 : (n179 : Int32).toInt = (n2 : Int32).toInt := xr178_1
              refine lv_pop hx hb dX8_readNumber_104 rfl ?_
              refine lv_iconst (v := (-1)) hx hb dX8_readNumber_105 (by decide) ?_
              have : ((-1) : Int32).toInt = (-1) := (by decide)
              have hP9 : va_P (dC, dI) classes (WX h g ca (u2 (u2 (u2 iv 8 3 n179) 8 4 n180) 8 5 n2) lv fa la) H := hP
              have hD9 : va_D A (WX h g ca (u2 (u2 (u2 iv 8 3 n179) 8 4 n180) 8 5 n2) lv fa la) := hD
              exact W.iret (v := (-1)) hx hb hr (fun t ht9 hW => ⟨⟨(-1), ((u2 (u2 (u2 iv 8 3 n179) 8 4 n180) 8 5 n2), lv, fa, la), rfl, ⟨n179, n180, n2, (show inb ((-1), 200) n179 from ⟨by omega, by omega⟩), (show inb (0, 5) n180 from ⟨by omega, by omega⟩), (show inb (0, 200) n2 from ⟨by omega, by omega⟩), (show ((((-1) : Int32).toInt = -1 ∧ 1 ≤ (n180 : Int32).toInt ∧ Num (fun j => ((fa 8 1) j).toInt) ((iv 8 2) : Int32).toInt (a).toInt (b).toInt (iv 8 5).toInt (n180 : Int32).toInt (n179 : Int32).toInt 0 0) ∨ (0 ≤ ((-1) : Int32).toInt ∧ (n180 : Int32).toInt = (iv 8 4).toInt ∧ (n179 : Int32).toInt = (iv 8 3).toInt ∧ Num (fun j => ((fa 8 1) j).toInt) ((iv 8 2) : Int32).toInt (a).toInt (b).toInt (iv 8 5).toInt 0 0 ((-1) : Int32).toInt (n2 : Int32).toInt)) from (by exact Or.inl ⟨by omega, by omega, _, _, xr1_0, xr3_0, Or.inr (Or.inl ⟨by omega, (fun q => by omega), by omega, by omega⟩)⟩)), (show ((-1) : Int32).toInt ≤ 9999 from by omega), ⟨by decide, by decide⟩, rfl⟩, by rw [ht9]; exact hP9, hD9⟩, hS.F ht9⟩) hS.2.2 dX8_readNumber_106
            · have fc177 := z_nlt (by decide : (4 : Int32).toInt = 4) (rfl : (v176).toInt = _) c177
              refine lv_iload hx hb dX8_readNumber_88 (lv_at hl 1 rfl) ?_
              refine lv_iload_n hx hb dX8_readNumber_90 rfl (lv_at hl 5 rfl) ?_
              refine lv_iload_n hx hb dX8_readNumber_91 rfl (lv_at hl 6 rfl) ?_
              refine vp_callSi (run_of (va_runSN (As := [.int x160_5, .int a, .int b]) (rest := []) ⟨hx, hb, hml, hown, ht⟩ (c_X11_within l dC dI x160_5 a b (x160_5.toInt) (a.toInt) (b.toInt) (rfl : (x160_5).toInt = _) (rfl : (a).toInt = _) (rfl : (b).toInt = _)) ⟨va_cnB 3 ht (tb_wc m_455) rfl rfl rfl hZ.2.2.2.2.2.1 (ht _ m_77) hd_X11_within_i ⟨Nat.le_of_ble_eq_true rfl, Nat.le_of_ble_eq_true rfl⟩, ht _ m_454, trivial⟩ (sR noP (hK.sub (tys' := []) [] rfl)) rfl rfl hl.1 rfl (lv_room (Nat.le_of_ble_eq_true rfl)) dX8_readNumber_92 ⟨Nat.le_of_ble_eq_true rfl, Nat.le_of_ble_eq_true rfl⟩)) (fun r181 hr181 => ?_)
              rcases hr181 with ⟨rfl, fr181⟩ | ⟨rfl, fr181⟩
              · skip
                refine lv_if_ne (tgt := 107) hx hb dX8_readNumber_95 (by decide) (fun c182 => ?_) (fun c182 => ?_)
                · skip
                  refine lv_aload_n hx hb dX8_readNumber_107 rfl (lv_at hl 4 rfl) ?_
                  refine lv_iload hx hb dX8_readNumber_108 (lv_at hl 2 rfl) ?_
                  refine pX_8_5 (v := r3) hx hb ht hown hK hP hD hS m_235 dX8_readNumber_110 (fun H locs hP hD hS => ?_)
                  have hP : va_P (dC, dI) classes (WX h g ca (u2 iv 8 5 r3) lv fa la) H := hP
                  have hD : va_D A (WX h g ca (u2 iv 8 5 r3) lv fa la) := hD
                  refine lv_iload hx hb dX8_readNumber_113 (lv_at hl 1 rfl) ?_
                  have i_8_4 : 0 ≤ (iv 8 4).toInt ∧ (iv 8 4).toInt ≤ 5 := hI.1 8 4
                  have i_8_3 : (-1) ≤ (iv 8 3).toInt ∧ (iv 8 3).toInt ≤ 200 := hI.1 8 3
                  have hP9 : va_P (dC, dI) classes (WX h g ca (u2 (u2 (u2 iv 8 3 (iv 8 3)) 8 4 (iv 8 4)) 8 5 r3) lv fa la) H := hP
                  have hD9 : va_D A (WX h g ca (u2 (u2 (u2 iv 8 3 (iv 8 3)) 8 4 (iv 8 4)) 8 5 r3) lv fa la) := hD
                  exact W.iret (v := x160_5) hx hb hr (fun t ht9 hW => ⟨⟨x160_5, ((u2 (u2 (u2 iv 8 3 (iv 8 3)) 8 4 (iv 8 4)) 8 5 r3), lv, fa, la), rfl, ⟨(iv 8 3), (iv 8 4), r3, (hI.1 8 3), (hI.1 8 4), (show inb (0, 200) r3 from ⟨by omega, by omega⟩), (show (((x160_5 : Int32).toInt = -1 ∧ 1 ≤ ((iv 8 4) : Int32).toInt ∧ Num (fun j => ((fa 8 1) j).toInt) ((iv 8 2) : Int32).toInt (a).toInt (b).toInt (iv 8 5).toInt ((iv 8 4) : Int32).toInt ((iv 8 3) : Int32).toInt 0 0) ∨ (0 ≤ (x160_5 : Int32).toInt ∧ ((iv 8 4) : Int32).toInt = (iv 8 4).toInt ∧ ((iv 8 3) : Int32).toInt = (iv 8 3).toInt ∧ Num (fun j => ((fa 8 1) j).toInt) ((iv 8 2) : Int32).toInt (a).toInt (b).toInt (iv 8 5).toInt 0 0 (x160_5 : Int32).toInt (r3 : Int32).toInt)) from (by have hq9 := hq161_0; have he9 : (x160_6 : Int32).toInt = (r3 : Int32).toInt := (by omega); rw [he9] at hq9; exact Or.inr ⟨by omega, by omega, by omega, _, _, xr1_0, xr3_0, Or.inr (Or.inr ⟨by omega, ⟨by omega, by omega, by omega⟩, by omega, by omega, by omega⟩)⟩)), (show (x160_5 : Int32).toInt ≤ 9999 from by omega), ⟨by omega, by omega⟩, rfl⟩, by rw [ht9]; exact hP9, hD9⟩, hS.F ht9⟩) hS.2.2 dX8_readNumber_115
                · exact absurd c182 (by decide)
              · skip
                refine lv_if_ne (tgt := 107) hx hb dX8_readNumber_95 (by decide) (fun c183 => ?_) (fun c183 => ?_)
                · exact absurd rfl c183
                · skip
                  refine lv_aload_n hx hb dX8_readNumber_98 rfl (lv_at hl 4 rfl) ?_
                  refine lv_iconst (v := 2) hx hb dX8_readNumber_99 (by decide) ?_
                  refine lv_iload_n hx hb dX8_readNumber_100 rfl (lv_at hl 3 rfl) ?_
                  have hFc := free_all hD hS hA
                  refine va_calli (va_runV (As := [.int 2, .int n2]) (rest := []) ⟨hx, hb, hml, hown, ht⟩ (c_X8_fail_r l dC dI H.size h g ca (u2 iv 8 5 n2) lv fa la (IX_i (c := 8) (k := 5) hI (show inb (0, 200) n2 from ⟨by omega, by omega⟩)) 2 n2 ⟨by decide, by decide⟩ ⟨by omega, by omega⟩) (kV 2 ht m_757 m_759 m_21 m_82 m_760 rfl rfl hd_X8_fail_v ⟨Nat.le_of_ble_eq_true rfl, Nat.le_of_ble_eq_true rfl⟩) (vW hP hK hD (rX_8 hK hP)) rfl rfl hl.1 rfl (lv_room (Nat.le_of_ble_eq_true rfl)) dX8_readNumber_101 ⟨Nat.le_of_ble_eq_true rfl, Nat.le_of_ble_eq_true rfl⟩) hS (fun q _ h => hFc q h) hFc (fun r184 u t H1 locs ht9 hvm hr184 hB hz1 hk1 hS => ?_)
                  obtain ⟨n185, n186, hn185, hn186, xr184_0, xr184_1, hr184, rfl⟩ := hr184
                  have hn185 : (-1) ≤ n185.toInt ∧ n185.toInt ≤ 200 := hn185
                  have hn186 : 0 ≤ n186.toInt ∧ n186.toInt ≤ 5 := hn186
                  obtain ⟨hP, hD⟩ := hB
                  rw [ht9] at hP
                  generalize H1 = H at hP hS ⊢
                  have hP : va_P (dC, dI) classes (WX h g ca (u2 (u2 (u2 iv 8 5 n2) 8 3 n185) 8 4 n186) lv fa la) H := hP
                  have hD : va_D A (WX h g ca (u2 (u2 (u2 iv 8 5 n2) 8 3 n185) 8 4 n186) lv fa la) := (show va_D _ (WX h g ca (u2 (u2 (u2 iv 8 5 n2) 8 3 n185) 8 4 n186) lv fa la) from hD).weaken (fun _ _ _ h => hFc _ h)
                  have : (2 : Int32).toInt = 2 := (by decide)
                  have xr184_0 : (n186 : Int32).toInt = (2 : Int32).toInt := xr184_0
                  have xr184_1 : (n185 : Int32).toInt = (n2 : Int32).toInt := xr184_1
                  refine lv_pop hx hb dX8_readNumber_104 rfl ?_
                  refine lv_iconst (v := (-1)) hx hb dX8_readNumber_105 (by decide) ?_
                  have : ((-1) : Int32).toInt = (-1) := (by decide)
                  have hP9 : va_P (dC, dI) classes (WX h g ca (u2 (u2 (u2 iv 8 3 n185) 8 4 n186) 8 5 n2) lv fa la) H := hP
                  have hD9 : va_D A (WX h g ca (u2 (u2 (u2 iv 8 3 n185) 8 4 n186) 8 5 n2) lv fa la) := hD
                  exact W.iret (v := (-1)) hx hb hr (fun t ht9 hW => ⟨⟨(-1), ((u2 (u2 (u2 iv 8 3 n185) 8 4 n186) 8 5 n2), lv, fa, la), rfl, ⟨n185, n186, n2, (show inb ((-1), 200) n185 from ⟨by omega, by omega⟩), (show inb (0, 5) n186 from ⟨by omega, by omega⟩), (show inb (0, 200) n2 from ⟨by omega, by omega⟩), (show ((((-1) : Int32).toInt = -1 ∧ 1 ≤ (n186 : Int32).toInt ∧ Num (fun j => ((fa 8 1) j).toInt) ((iv 8 2) : Int32).toInt (a).toInt (b).toInt (iv 8 5).toInt (n186 : Int32).toInt (n185 : Int32).toInt 0 0) ∨ (0 ≤ ((-1) : Int32).toInt ∧ (n186 : Int32).toInt = (iv 8 4).toInt ∧ (n185 : Int32).toInt = (iv 8 3).toInt ∧ Num (fun j => ((fa 8 1) j).toInt) ((iv 8 2) : Int32).toInt (a).toInt (b).toInt (iv 8 5).toInt 0 0 ((-1) : Int32).toInt (n2 : Int32).toInt)) from (by have hq9 := hq161_0; have he9 : (x160_6 : Int32).toInt = (r3 : Int32).toInt := (by omega); rw [he9] at hq9; exact Or.inl ⟨by omega, by omega, _, _, xr1_0, xr3_0, Or.inr (Or.inl ⟨by omega, (fun q => by omega), by omega, by omega⟩)⟩)), (show ((-1) : Int32).toInt ≤ 9999 from by omega), ⟨by decide, by decide⟩, rfl⟩, by rw [ht9]; exact hP9, hD9⟩, hS.F ht9⟩) hS.2.2 dX8_readNumber_106
          · have fc175 := z_nle (rfl : (v174).toInt = _) (rfl : (x160_6).toInt = _) c175
            have hb9 := dv_r (t := (fun j => (fa 8 1 j).toInt)) (k := (x160_6 : Int32).toInt) (by omega) xr3_0.2.1 (by omega) (by omega)
            have : 0 ≤ (x160_5 : Int32).toInt ∧ (x160_5 : Int32).toInt ≤ 999 := ⟨by omega, by omega⟩
            refine lv_bipush (v := 10) hx hb dX8_readNumber_56 (by decide) ?_
            refine lv_iload hx hb dX8_readNumber_58 (lv_at hl 1 rfl) ?_
            refine lv_imul hx hb dX8_readNumber_60 ?_
            refine lv_topi (fun v187 ev187 => ?_)
            have tv187 := z_mul ev187 (by decide : (10 : Int32).toInt = 10) (rfl : (x160_5).toInt = _) (by omega) (by omega)
            refine lv_aload_n hx hb dX8_readNumber_61 rfl (lv_at hl 4 rfl) ?_
            refine gX_8_1 hx hb ht hown hK hP m_229 dX8_readNumber_62 ?_
            refine lv_iload hx hb dX8_readNumber_65 (lv_at hl 0 rfl) ?_
            refine lX_8_1 hx hb hK hP (f := (fa 8 1)) rfl (vp_in_iff.mpr ⟨by omega, by omega⟩) dX8_readNumber_67 ?_
            refine lv_topi (fun v188 ev188 => ?_)
            have hd9 : 48 ≤ (fa 8 1 ((x160_6 : Int32).toInt).toNat).toInt ∧ (fa 8 1 ((x160_6 : Int32).toInt).toNat).toInt ≤ 57 := (xr3_0.2.1 ((x160_6 : Int32).toInt).toNat (by omega) (by omega)).2
            have hv9 := congrArg Int32.toInt (show v188 = (fa 8 1) ((x160_6 : Int32).toInt).toNat from ev188)
            have : 48 ≤ (v188 : Int32).toInt ∧ (v188 : Int32).toInt ≤ 57 := ⟨by omega, by omega⟩
            refine lv_bipush (v := 48) hx hb dX8_readNumber_68 (by decide) ?_
            refine lv_isub hx hb dX8_readNumber_70 ?_
            refine lv_topi (fun v189 ev189 => ?_)
            have tv189 := z_sub ev189 (rfl : (v188).toInt = _) (by decide : (48 : Int32).toInt = 48) (by omega) (by omega)
            refine lv_iadd hx hb dX8_readNumber_71 ?_
            refine lv_topi (fun v190 ev190 => ?_)
            have tv190 := z_add ev190 (rfl : (v187).toInt = _) (rfl : (v189).toInt = _) (by omega) (by omega)
            refine lv_istore (lv' := [(5, .int v190), (6, .int x160_6), (4, .int r3), (3, .int n2), (0, .ref (g 11 4)), (1, .int a), (2, .int b)]) hx hb dX8_readNumber_72 hl (by decide) rfl (fun ls hl => ?_)
            obtain ⟨v191, ev191⟩ : ∃ y : Int32, y = x160_6 + 1 := ⟨_, rfl⟩
            have tv191 := z_add ev191 rfl (by decide : (1 : Int32).toInt = 1) (by omega) (by omega)
            refine lv_iinc (v := v191) (lv' := [(6, .int v191), (5, .int v190), (4, .int r3), (3, .int n2), (0, .ref (g 11 4)), (1, .int a), (2, .int b)]) hx hb dX8_readNumber_74 hl (k := 1) rfl (by rw [ev191]; rfl) (by decide) rfl (fun ls hl => ?_)
            refine lv_goto (tgt := 41) hx hb dX8_readNumber_77 (by decide) ?_
            exact ih161 v191 v190 ⟨by omega, by omega⟩ ⟨by omega, by omega⟩ (show (v190 : Int32).toInt = dv (fun j => ((fa 8 1) j).toInt) ((n2 : Int32).toInt).toNat ((v191 : Int32).toInt - (n2 : Int32).toInt).toNat from (by have hc := dv_s (t := (fun j => (fa 8 1 j).toInt)) (s := (n2 : Int32).toInt) (k := (x160_6 : Int32).toInt) (k' := (v191 : Int32).toInt) (x := (v188 : Int32).toInt) (by omega) (by omega) (by omega) (congrArg Int32.toInt ev188); have hq9 := hq161_0; rw [hc]; omega)) (show (n2 : Int32).toInt ≤ (v191 : Int32).toInt from by omega) (show (v191 : Int32).toInt ≤ (r3 : Int32).toInt from by omega) (show (v191 : Int32).toInt ≤ (n2 : Int32).toInt + 4 from by omega) (by omega) _ _ ls hP hD hS (lv_sub hl [0, 1, 2, 3, 4, 5, 6] rfl)
    have : (0 : Int32).toInt = 0 := (by decide)
    exact lp161 201 n2 0 ⟨by omega, by omega⟩ ⟨by decide, by decide⟩ (show (0 : Int32).toInt = dv (fun j => ((fa 8 1) j).toInt) ((n2 : Int32).toInt).toNat ((n2 : Int32).toInt - (n2 : Int32).toInt).toNat from (by rw [Int.sub_self]; exact (by decide : (0 : Int32).toInt = 0))) (show (n2 : Int32).toInt ≤ (n2 : Int32).toInt from by omega) (show (n2 : Int32).toInt ≤ (r3 : Int32).toInt from by omega) (show (n2 : Int32).toInt ≤ (n2 : Int32).toInt + 4 from by omega) (by first | decide | omega) _ _ ls hP hD hS (lv_sub hl [0, 1, 2, 3, 4, 5, 6] rfl)
  · have fc4 := z_eq (rfl : (r3).toInt = _) (rfl : (n2).toInt = _) c4
    refine lv_aload_n hx hb dX8_readNumber_26 rfl (lv_at hl 2 rfl) ?_
    refine lv_iconst (v := 1) hx hb dX8_readNumber_27 (by decide) ?_
    refine lv_iload_n hx hb dX8_readNumber_28 rfl (lv_at hl 1 rfl) ?_
    have hFc := free_all hD hS hA
    refine va_calli (va_runV (As := [.int 1, .int n2]) (rest := []) ⟨hx, hb, hml, hown, ht⟩ (c_X8_fail_r l dC dI H.size h g ca (u2 iv 8 5 n2) lv fa la (IX_i (c := 8) (k := 5) hI (show inb (0, 200) n2 from ⟨by omega, by omega⟩)) 1 n2 ⟨by decide, by decide⟩ ⟨by omega, by omega⟩) (kV 2 ht m_757 m_759 m_21 m_82 m_760 rfl rfl hd_X8_fail_v ⟨Nat.le_of_ble_eq_true rfl, Nat.le_of_ble_eq_true rfl⟩) (vW hP hK hD (rX_8 hK hP)) rfl rfl hl.1 rfl (lv_room (Nat.le_of_ble_eq_true rfl)) dX8_readNumber_29 ⟨Nat.le_of_ble_eq_true rfl, Nat.le_of_ble_eq_true rfl⟩) hS (fun q _ h => hFc q h) hFc (fun r192 u t H1 locs ht9 hvm hr192 hB hz1 hk1 hS => ?_)
    obtain ⟨n193, n194, hn193, hn194, xr192_0, xr192_1, hr192, rfl⟩ := hr192
    have hn193 : (-1) ≤ n193.toInt ∧ n193.toInt ≤ 200 := hn193
    have hn194 : 0 ≤ n194.toInt ∧ n194.toInt ≤ 5 := hn194
    obtain ⟨hP, hD⟩ := hB
    rw [ht9] at hP
    generalize H1 = H at hP hS ⊢
    have hP : va_P (dC, dI) classes (WX h g ca (u2 (u2 (u2 iv 8 5 n2) 8 3 n193) 8 4 n194) lv fa la) H := hP
    have hD : va_D A (WX h g ca (u2 (u2 (u2 iv 8 5 n2) 8 3 n193) 8 4 n194) lv fa la) := (show va_D _ (WX h g ca (u2 (u2 (u2 iv 8 5 n2) 8 3 n193) 8 4 n194) lv fa la) from hD).weaken (fun _ _ _ h => hFc _ h)
    have : (1 : Int32).toInt = 1 := (by decide)
    have xr192_0 : (n194 : Int32).toInt = (1 : Int32).toInt := xr192_0
    have xr192_1 : (n193 : Int32).toInt = (n2 : Int32).toInt := xr192_1
    refine lv_pop hx hb dX8_readNumber_32 rfl ?_
    refine lv_iconst (v := (-1)) hx hb dX8_readNumber_33 (by decide) ?_
    have : ((-1) : Int32).toInt = (-1) := (by decide)
    have hP9 : va_P (dC, dI) classes (WX h g ca (u2 (u2 (u2 iv 8 3 n193) 8 4 n194) 8 5 n2) lv fa la) H := hP
    have hD9 : va_D A (WX h g ca (u2 (u2 (u2 iv 8 3 n193) 8 4 n194) 8 5 n2) lv fa la) := hD
    exact W.iret (v := (-1)) hx hb hr (fun t ht9 hW => ⟨⟨(-1), ((u2 (u2 (u2 iv 8 3 n193) 8 4 n194) 8 5 n2), lv, fa, la), rfl, ⟨n193, n194, n2, (show inb ((-1), 200) n193 from ⟨by omega, by omega⟩), (show inb (0, 5) n194 from ⟨by omega, by omega⟩), (show inb (0, 200) n2 from ⟨by omega, by omega⟩), (show ((((-1) : Int32).toInt = -1 ∧ 1 ≤ (n194 : Int32).toInt ∧ Num (fun j => ((fa 8 1) j).toInt) ((iv 8 2) : Int32).toInt (a).toInt (b).toInt (iv 8 5).toInt (n194 : Int32).toInt (n193 : Int32).toInt 0 0) ∨ (0 ≤ ((-1) : Int32).toInt ∧ (n194 : Int32).toInt = (iv 8 4).toInt ∧ (n193 : Int32).toInt = (iv 8 3).toInt ∧ Num (fun j => ((fa 8 1) j).toInt) ((iv 8 2) : Int32).toInt (a).toInt (b).toInt (iv 8 5).toInt 0 0 ((-1) : Int32).toInt (n2 : Int32).toInt)) from Or.inl ⟨by omega, by omega, _, _, xr1_0, xr3_0, Or.inl ⟨by omega, by omega, by omega⟩⟩), (show ((-1) : Int32).toInt ≤ 9999 from by omega), ⟨by decide, by decide⟩, rfl⟩, by rw [ht9]; exact hP9, hD9⟩, hS.F ht9⟩) hS.2.2 dX8_readNumber_34
set_option maxHeartbeats 4000000 in
set_option maxRecDepth 100000 in
/-- X8_readStop -/
theorem c_X8_readStop_r (l : Launch) (dC : Nat → ClassId) (dI : Nat → Nat → Nat) (sz : Nat) (h : Nat) (g : Nat → Nat → Nat) (ca : Nat → Nat → ClassId) (iv : Nat → Nat → Int32) (lv : Nat → Nat → Int64) (fa : Nat → Nat → Nat → Int32) (la : Nat → Nat → Nat → Int64) (hI : IX iv fa) : Met l yX8_readStop (wc yX8_readStop cX8_readStop 1 (some .boolean)) ({ frames := 1, cells := 0, slots := 0, locals := 22 } : Room) (pW (dC, dI) classes (WX h g ca iv lv fa la) (TX ca) sz [.ref (g 11 4)]) (va_Qi (fun r (u : SS) => ∃ (ni_8_3 : Int32) (ni_8_4 : Int32) (ni_8_5 : Int32), inb (bI 8 3) ni_8_3 ∧ inb (bI 8 4) ni_8_4 ∧ inb (bI 8 5) ni_8_5 ∧ (((r.toInt = 0 ∧ 1 ≤ (ni_8_4).toInt ∧ StpR (fun j => ((fa 8 1) j).toInt) (iv 8 2).toInt (iv 8 5).toInt (ni_8_4).toInt (ni_8_3).toInt 0) ∨ (r.toInt = 1 ∧ (ni_8_4).toInt = (iv 8 4).toInt ∧ (ni_8_3).toInt = (iv 8 3).toInt ∧ StpR (fun j => ((fa 8 1) j).toInt) (iv 8 2).toInt (iv 8 5).toInt 0 0 (ni_8_5).toInt))) ∧ (0 ≤ r.toInt ∧ r.toInt ≤ 1) ∧ u = ((u2 (u2 (u2 iv 8 3 ni_8_3) 8 4 ni_8_4) 8 5 ni_8_5), lv, fa, la)) (bX (dC, dI) h g ca (va_A (WX h g ca iv lv fa la) sz)) (va_A (WX h g ca iv lv fa la) sz)) 0 0 (va_A (WX h g ca iv lv fa la) sz) := by
  refine Met.ofW (cc := cX8_readStop) (maxL := 1) (ret := (some .boolean)) (by decide) rfl ?_
  intro p e s m args below meth c s₁ B hml hv
  obtain ⟨rfl, hsz, hP, hK, hD0⟩ := hv
  have hx := B.exec
  have hb := B.bytes
  have hr := B.returns
  have ht := tb_tl (atoms_spec (ws := wc yX8_readStop cX8_readStop 1 (some .boolean)) B.pre)
  have hown : s.vm.findClass RX8 = some m.cls := findClass_of_methodNamed B.named
  have hlocks := B.notSynchronized
  subst hsz
  have hD := hD0.self (sz := s.heap.size)
  generalize hAe : va_A (WX h g ca iv lv fa la) s.heap.size = A at hD ⊢
  have hA : ∀ q : Nat, s.heap.size ≤ q → A q := fun q h => by rw [← hAe]; exact Or.inr h
  have hS : va_S A s.heap s.heap [] := va_S.rf
  have hl := lv_entry [.ref (g 11 4)] (n := 1) (Nat.le_of_ble_eq_true rfl)
  rw [lg_entry_eq]
  generalize (lg_sl [.ref (g 11 4)] ++ List.replicate (1 - (lg_sl [.ref (g 11 4)]).length) Slot.unset).toArray = ls at hl ⊢
  have hl : lv_has ls 1 [(0, .ref (g 11 4))] := hl
  refine lv_aload_n hx hb dX8_readStop_0 rfl (lv_at hl 0 rfl) ?_
  have i_8_5 : 0 ≤ (iv 8 5).toInt ∧ (iv 8 5).toInt ≤ 200 := hI.1 8 5
  have hFc := free_all hD hS hA
  refine va_calli (va_runV (As := []) (rest := []) ⟨hx, hb, hml, hown, ht⟩ (c_X8_skipBlanks_r l dC dI s.heap.size h g ca iv lv fa la hI) (kV 0 ht m_688 m_690 m_16 m_82 m_691 rfl rfl hd_X8_skipBlanks_v ⟨Nat.le_of_ble_eq_true rfl, Nat.le_of_ble_eq_true rfl⟩) (vW hP hK hD (rX_8 hK hP)) rfl rfl hl.1 rfl (lv_room (Nat.le_of_ble_eq_true rfl)) dX8_readStop_1 ⟨Nat.le_of_ble_eq_true rfl, Nat.le_of_ble_eq_true rfl⟩) hS (fun q _ h => hFc q h) hFc (fun r1 u t H1 locs ht9 hvm hr1 hB hz1 hk1 hS => ?_)
  obtain ⟨n2, hn2, xr1_0, xr1_1, hr1, rfl⟩ := hr1
  have hn2 : 0 ≤ n2.toInt ∧ n2.toInt ≤ 200 := hn2
  obtain ⟨hP, hD⟩ := hB
  rw [ht9] at hP
  generalize H1 = H at hP hS ⊢
  have hP : va_P (dC, dI) classes (WX h g ca (u2 iv 8 5 n2) lv fa la) H := hP
  have hD : va_D A (WX h g ca (u2 iv 8 5 n2) lv fa la) := (show va_D _ (WX h g ca (u2 iv 8 5 n2) lv fa la) from hD).weaken (fun _ _ _ h => hFc _ h)
  have i_8_2 : 0 ≤ (iv 8 2).toInt ∧ (iv 8 2).toInt ≤ 200 := hI.1 8 2
  have xr1_0 : Sk (fun j => ((fa 8 1) j).toInt) ((iv 8 2) : Int32).toInt ((iv 8 5) : Int32).toInt (n2 : Int32).toInt := xr1_0
  have xr1_1 : (((r1 : Int32).toInt = 1 ∧ (n2 : Int32).toInt < ((iv 8 2) : Int32).toInt) ∨ ((r1 : Int32).toInt = 0 ∧ ((iv 8 2) : Int32).toInt ≤ (n2 : Int32).toInt)) := xr1_1
  refine lv_if_eq (tgt := 21) hx hb dX8_readStop_4 (by decide) (fun c3 => ?_) (fun c3 => ?_)
  · have fc3 := z_eq (rfl : (r1).toInt = _) (by decide : (0 : Int32).toInt = 0) c3
    refine lv_aload_n hx hb dX8_readStop_21 rfl (lv_at hl 0 rfl) ?_
    refine lv_iconst (v := 1) hx hb dX8_readStop_22 (by decide) ?_
    refine lv_aload_n hx hb dX8_readStop_23 rfl (lv_at hl 0 rfl) ?_
    refine gX_8_5 hx hb ht hown hK hP m_235 (v := n2) rfl dX8_readStop_24 ?_
    have hFc := free_all hD hS hA
    refine va_calli (va_runV (As := [.int 1, .int n2]) (rest := []) ⟨hx, hb, hml, hown, ht⟩ (c_X8_fail_r l dC dI H.size h g ca (u2 iv 8 5 n2) lv fa la (IX_i (c := 8) (k := 5) hI (show inb (0, 200) n2 from ⟨by omega, by omega⟩)) 1 n2 ⟨by decide, by decide⟩ ⟨by omega, by omega⟩) (kV 2 ht m_757 m_759 m_21 m_82 m_760 rfl rfl hd_X8_fail_v ⟨Nat.le_of_ble_eq_true rfl, Nat.le_of_ble_eq_true rfl⟩) (vW hP hK hD (rX_8 hK hP)) rfl rfl hl.1 rfl (lv_room (Nat.le_of_ble_eq_true rfl)) dX8_readStop_27 ⟨Nat.le_of_ble_eq_true rfl, Nat.le_of_ble_eq_true rfl⟩) hS (fun q _ h => hFc q h) hFc (fun r4 u t H1 locs ht9 hvm hr4 hB hz1 hk1 hS => ?_)
    obtain ⟨n5, n6, hn5, hn6, xr4_0, xr4_1, hr4, rfl⟩ := hr4
    have hn5 : (-1) ≤ n5.toInt ∧ n5.toInt ≤ 200 := hn5
    have hn6 : 0 ≤ n6.toInt ∧ n6.toInt ≤ 5 := hn6
    obtain ⟨hP, hD⟩ := hB
    rw [ht9] at hP
    generalize H1 = H at hP hS ⊢
    have hP : va_P (dC, dI) classes (WX h g ca (u2 (u2 (u2 iv 8 5 n2) 8 3 n5) 8 4 n6) lv fa la) H := hP
    have hD : va_D A (WX h g ca (u2 (u2 (u2 iv 8 5 n2) 8 3 n5) 8 4 n6) lv fa la) := (show va_D _ (WX h g ca (u2 (u2 (u2 iv 8 5 n2) 8 3 n5) 8 4 n6) lv fa la) from hD).weaken (fun _ _ _ h => hFc _ h)
    have : (1 : Int32).toInt = 1 := (by decide)
    have xr4_0 : (n6 : Int32).toInt = (1 : Int32).toInt := xr4_0
    have xr4_1 : (n5 : Int32).toInt = (n2 : Int32).toInt := xr4_1
    have hP9 : va_P (dC, dI) classes (WX h g ca (u2 (u2 (u2 iv 8 3 n5) 8 4 n6) 8 5 n2) lv fa la) H := hP
    have hD9 : va_D A (WX h g ca (u2 (u2 (u2 iv 8 3 n5) 8 4 n6) 8 5 n2) lv fa la) := hD
    exact W.zret (v := r4) hx hb hr (nar01 ⟨by omega, by omega⟩) (fun t ht9 hW => ⟨⟨r4, ((u2 (u2 (u2 iv 8 3 n5) 8 4 n6) 8 5 n2), lv, fa, la), rfl, ⟨n5, n6, n2, (show inb ((-1), 200) n5 from ⟨by omega, by omega⟩), (show inb (0, 5) n6 from ⟨by omega, by omega⟩), (show inb (0, 200) n2 from ⟨by omega, by omega⟩), (show (((r4 : Int32).toInt = 0 ∧ 1 ≤ (n6 : Int32).toInt ∧ StpR (fun j => ((fa 8 1) j).toInt) ((iv 8 2) : Int32).toInt (iv 8 5).toInt (n6 : Int32).toInt (n5 : Int32).toInt 0) ∨ ((r4 : Int32).toInt = 1 ∧ (n6 : Int32).toInt = (iv 8 4).toInt ∧ (n5 : Int32).toInt = (iv 8 3).toInt ∧ StpR (fun j => ((fa 8 1) j).toInt) ((iv 8 2) : Int32).toInt (iv 8 5).toInt 0 0 (n2 : Int32).toInt)) from (by exact Or.inl ⟨by omega, by omega, _, xr1_0, Or.inl ⟨(fun q => by omega), by omega, by omega⟩⟩)), ⟨by omega, by omega⟩, rfl⟩, by rw [ht9]; exact hP9, hD9⟩, hS.F ht9⟩) hS.2.2 dX8_readStop_30
  · have fc3 := z_ne (rfl : (r1).toInt = _) (by decide : (0 : Int32).toInt = 0) c3
    refine lv_aload_n hx hb dX8_readStop_7 rfl (lv_at hl 0 rfl) ?_
    refine gX_8_1 hx hb ht hown hK hP m_229 dX8_readStop_8 ?_
    refine lv_aload_n hx hb dX8_readStop_11 rfl (lv_at hl 0 rfl) ?_
    refine gX_8_5 hx hb ht hown hK hP m_235 (v := n2) rfl dX8_readStop_12 ?_
    have : 0 ≤ (n2 : Int32).toInt ∧ (n2 : Int32).toInt ≤ 199 := ⟨by omega, by omega⟩
    refine lX_8_1 hx hb hK hP (f := (fa 8 1)) rfl (vp_in_iff.mpr ⟨by omega, by omega⟩) dX8_readStop_15 ?_
    refine lv_topi (fun v7 ev7 => ?_)
    refine lv_bipush (v := 59) hx hb dX8_readStop_16 (by decide) ?_
    refine lv_icmp_eq (tgt := 31) hx hb dX8_readStop_18 (by decide) (fun c8 => ?_) (fun c8 => ?_)
    · have fc8 := z_eq (rfl : (v7).toInt = _) (by decide : (59 : Int32).toInt = 59) c8
      refine lv_aload_n hx hb dX8_readStop_31 rfl (lv_at hl 0 rfl) ?_
      refine lv_dup hx hb dX8_readStop_32 rfl ?_
      refine gX_8_5 hx hb ht hown hK hP m_235 (v := n2) rfl dX8_readStop_33 ?_
      refine lv_iconst (v := 1) hx hb dX8_readStop_36 (by decide) ?_
      refine lv_iadd hx hb dX8_readStop_37 ?_
      refine lv_topi (fun v9 ev9 => ?_)
      have tv9 := z_add ev9 (rfl : (n2).toInt = _) (by decide : (1 : Int32).toInt = 1) (by omega) (by omega)
      refine pX_8_5 (v := v9) hx hb ht hown hK hP hD hS m_235 dX8_readStop_38 (fun H locs hP hD hS => ?_)
      have hP : va_P (dC, dI) classes (WX h g ca (u2 iv 8 5 v9) lv fa la) H := hP
      have hD : va_D A (WX h g ca (u2 iv 8 5 v9) lv fa la) := hD
      refine lv_iconst (v := 1) hx hb dX8_readStop_41 (by decide) ?_
      have : (1 : Int32).toInt = 1 := (by decide)
      have i_8_4 : 0 ≤ (iv 8 4).toInt ∧ (iv 8 4).toInt ≤ 5 := hI.1 8 4
      have i_8_3 : (-1) ≤ (iv 8 3).toInt ∧ (iv 8 3).toInt ≤ 200 := hI.1 8 3
      have hP9 : va_P (dC, dI) classes (WX h g ca (u2 (u2 (u2 iv 8 3 (iv 8 3)) 8 4 (iv 8 4)) 8 5 v9) lv fa la) H := hP
      have hD9 : va_D A (WX h g ca (u2 (u2 (u2 iv 8 3 (iv 8 3)) 8 4 (iv 8 4)) 8 5 v9) lv fa la) := hD
      exact W.zret (v := 1) hx hb hr rfl (fun t ht9 hW => ⟨⟨1, ((u2 (u2 (u2 iv 8 3 (iv 8 3)) 8 4 (iv 8 4)) 8 5 v9), lv, fa, la), rfl, ⟨(iv 8 3), (iv 8 4), v9, (hI.1 8 3), (hI.1 8 4), (show inb (0, 200) v9 from ⟨by omega, by omega⟩), (show (((1 : Int32).toInt = 0 ∧ 1 ≤ ((iv 8 4) : Int32).toInt ∧ StpR (fun j => ((fa 8 1) j).toInt) ((iv 8 2) : Int32).toInt (iv 8 5).toInt ((iv 8 4) : Int32).toInt ((iv 8 3) : Int32).toInt 0) ∨ ((1 : Int32).toInt = 1 ∧ ((iv 8 4) : Int32).toInt = (iv 8 4).toInt ∧ ((iv 8 3) : Int32).toInt = (iv 8 3).toInt ∧ StpR (fun j => ((fa 8 1) j).toInt) ((iv 8 2) : Int32).toInt (iv 8 5).toInt 0 0 (v9 : Int32).toInt)) from (by have hv9 := congrArg Int32.toInt (show v7 = (fa 8 1) ((n2 : Int32).toInt).toNat from ev7); exact Or.inr ⟨by omega, by omega, by omega, _, xr1_0, Or.inr ⟨⟨by omega, (show (fa 8 1 ((n2 : Int32).toInt).toNat).toInt = 59 from by omega)⟩, by omega, by omega⟩⟩)), ⟨by decide, by decide⟩, rfl⟩, by rw [ht9]; exact hP9, hD9⟩, hS.F ht9⟩) hS.2.2 dX8_readStop_42
    · have fc8 := z_ne (rfl : (v7).toInt = _) (by decide : (59 : Int32).toInt = 59) c8
      refine lv_aload_n hx hb dX8_readStop_21 rfl (lv_at hl 0 rfl) ?_
      refine lv_iconst (v := 1) hx hb dX8_readStop_22 (by decide) ?_
      refine lv_aload_n hx hb dX8_readStop_23 rfl (lv_at hl 0 rfl) ?_
      refine gX_8_5 hx hb ht hown hK hP m_235 (v := n2) rfl dX8_readStop_24 ?_
      have hFc := free_all hD hS hA
      refine va_calli (va_runV (As := [.int 1, .int n2]) (rest := []) ⟨hx, hb, hml, hown, ht⟩ (c_X8_fail_r l dC dI H.size h g ca (u2 iv 8 5 n2) lv fa la (IX_i (c := 8) (k := 5) hI (show inb (0, 200) n2 from ⟨by omega, by omega⟩)) 1 n2 ⟨by decide, by decide⟩ ⟨by omega, by omega⟩) (kV 2 ht m_757 m_759 m_21 m_82 m_760 rfl rfl hd_X8_fail_v ⟨Nat.le_of_ble_eq_true rfl, Nat.le_of_ble_eq_true rfl⟩) (vW hP hK hD (rX_8 hK hP)) rfl rfl hl.1 rfl (lv_room (Nat.le_of_ble_eq_true rfl)) dX8_readStop_27 ⟨Nat.le_of_ble_eq_true rfl, Nat.le_of_ble_eq_true rfl⟩) hS (fun q _ h => hFc q h) hFc (fun r10 u t H1 locs ht9 hvm hr10 hB hz1 hk1 hS => ?_)
      obtain ⟨n11, n12, hn11, hn12, xr10_0, xr10_1, hr10, rfl⟩ := hr10
      have hn11 : (-1) ≤ n11.toInt ∧ n11.toInt ≤ 200 := hn11
      have hn12 : 0 ≤ n12.toInt ∧ n12.toInt ≤ 5 := hn12
      obtain ⟨hP, hD⟩ := hB
      rw [ht9] at hP
      generalize H1 = H at hP hS ⊢
      have hP : va_P (dC, dI) classes (WX h g ca (u2 (u2 (u2 iv 8 5 n2) 8 3 n11) 8 4 n12) lv fa la) H := hP
      have hD : va_D A (WX h g ca (u2 (u2 (u2 iv 8 5 n2) 8 3 n11) 8 4 n12) lv fa la) := (show va_D _ (WX h g ca (u2 (u2 (u2 iv 8 5 n2) 8 3 n11) 8 4 n12) lv fa la) from hD).weaken (fun _ _ _ h => hFc _ h)
      have : (1 : Int32).toInt = 1 := (by decide)
      have xr10_0 : (n12 : Int32).toInt = (1 : Int32).toInt := xr10_0
      have xr10_1 : (n11 : Int32).toInt = (n2 : Int32).toInt := xr10_1
      have hP9 : va_P (dC, dI) classes (WX h g ca (u2 (u2 (u2 iv 8 3 n11) 8 4 n12) 8 5 n2) lv fa la) H := hP
      have hD9 : va_D A (WX h g ca (u2 (u2 (u2 iv 8 3 n11) 8 4 n12) 8 5 n2) lv fa la) := hD
      exact W.zret (v := r10) hx hb hr (nar01 ⟨by omega, by omega⟩) (fun t ht9 hW => ⟨⟨r10, ((u2 (u2 (u2 iv 8 3 n11) 8 4 n12) 8 5 n2), lv, fa, la), rfl, ⟨n11, n12, n2, (show inb ((-1), 200) n11 from ⟨by omega, by omega⟩), (show inb (0, 5) n12 from ⟨by omega, by omega⟩), (show inb (0, 200) n2 from ⟨by omega, by omega⟩), (show (((r10 : Int32).toInt = 0 ∧ 1 ≤ (n12 : Int32).toInt ∧ StpR (fun j => ((fa 8 1) j).toInt) ((iv 8 2) : Int32).toInt (iv 8 5).toInt (n12 : Int32).toInt (n11 : Int32).toInt 0) ∨ ((r10 : Int32).toInt = 1 ∧ (n12 : Int32).toInt = (iv 8 4).toInt ∧ (n11 : Int32).toInt = (iv 8 3).toInt ∧ StpR (fun j => ((fa 8 1) j).toInt) ((iv 8 2) : Int32).toInt (iv 8 5).toInt 0 0 (n2 : Int32).toInt)) from (by exact Or.inl ⟨by omega, by omega, _, xr1_0, Or.inl ⟨(fun q => by have q2 : (fa 8 1 ((n2 : Int32).toInt).toNat).toInt = 59 := q.2; have hv9 := congrArg Int32.toInt (show v7 = (fa 8 1) ((n2 : Int32).toInt).toNat from ev7); omega), by omega, by omega⟩⟩)), ⟨by omega, by omega⟩, rfl⟩, by rw [ht9]; exact hP9, hD9⟩, hS.F ht9⟩) hS.2.2 dX8_readStop_30
