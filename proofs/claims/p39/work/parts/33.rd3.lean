/-! ===== rd3 ===== -/
set_option maxHeartbeats 4000000 in
set_option maxRecDepth 100000 in
/-- X8_readNumber -/
theorem c_X8_readNumber_r (l : Launch) (dC : Nat → ClassId) (dI : Nat → Nat → Nat) (sz : Nat) (ak av : Nat → Nat) (h : Nat) (g : Nat → Nat → Nat) (ca : Nat → Nat → ClassId) (iv : Nat → Nat → Int32) (lv : Nat → Nat → Int64) (fa : Nat → Nat → Nat → Int32) (la : Nat → Nat → Nat → Int64) (hI : IX iv fa) (a : Int32) (b : Int32) (p_0 : 0 ≤ a.toInt) : Met l yX8_readNumber (wc yX8_readNumber cX8_readNumber 7 (some .int)) ({ frames := 1, cells := 0, slots := 0, locals := 23 } : Room) (pWZ ak av (dC, dI) classes (WX h g ca iv lv fa la) (TX ca) sz [.ref (g 11 4), .int a, .int b]) (va_Qi (fun r (u : SS) => ∃ (ni_8_3 : Int32) (ni_8_4 : Int32) (ni_8_5 : Int32), inb (bI 8 3) ni_8_3 ∧ inb (bI 8 4) ni_8_4 ∧ inb (bI 8 5) ni_8_5 ∧ (((r.toInt = -1 ∧ 1 ≤ (ni_8_4).toInt ∧ Num (fun j => ((fa 8 1) j).toInt) (iv 8 2).toInt a.toInt b.toInt (iv 8 5).toInt (ni_8_4).toInt (ni_8_3).toInt 0 0) ∨ (0 ≤ r.toInt ∧ (ni_8_4).toInt = (iv 8 4).toInt ∧ (ni_8_3).toInt = (iv 8 3).toInt ∧ Num (fun j => ((fa 8 1) j).toInt) (iv 8 2).toInt a.toInt b.toInt (iv 8 5).toInt 0 0 r.toInt (ni_8_5).toInt))) ∧ (r.toInt ≤ 9999) ∧ ((-1) ≤ r.toInt ∧ r.toInt ≤ 9999) ∧ u = ((u2 (u2 (u2 iv 8 3 ni_8_3) 8 4 ni_8_4) 8 5 ni_8_5), lv, fa, la)) (bX (dC, dI) h g ca (va_A (WX h g ca iv lv fa la) sz)) (va_A (WX h g ca iv lv fa la) sz)) 0 0 (va_A (WX h g ca iv lv fa la) sz) := by
  refine Met.ofW (cc := cX8_readNumber) (maxL := 7) (ret := (some .int)) (by decide) rfl ?_
  intro p e s m args below meth c s₁ B hml hv
  obtain ⟨rfl, hsz, hP, hK, hD0, hZ⟩ := hv
  have hx := B.exec
  have hb := B.bytes
  have hr := B.returns
  have ht := tb_tl (atoms_spec (ws := wc yX8_readNumber cX8_readNumber 7 (some .int)) B.pre)
  have hown : s.vm.findClass RX8 = some m.cls := findClass_of_methodNamed B.named
  have hlocks := B.notSynchronized
  subst hsz
  have hD := hD0.self (sz := s.heap.size)
  generalize hAe : va_A (WX h g ca iv lv fa la) s.heap.size = A at hD hZ ⊢
  have hA : ∀ q : Nat, s.heap.size ≤ q → A q := fun q h => by rw [← hAe]; exact Or.inr h
  have hS : va_S A s.heap s.heap [] := va_S.rf
  have hl := lv_entry [.ref (g 11 4), .int a, .int b] (n := 7) (Nat.le_of_ble_eq_true rfl)
  rw [lg_entry_eq]
  generalize (lg_sl [.ref (g 11 4), .int a, .int b] ++ List.replicate (7 - (lg_sl [.ref (g 11 4), .int a, .int b]).length) Slot.unset).toArray = ls at hl ⊢
  have hl : lv_has ls 7 [(0, .ref (g 11 4)), (1, .int a), (2, .int b)] := hl
  refine lv_aload_n hx hb dX8_readNumber_0 rfl (lv_at hl 0 rfl) ?_
  have i_8_5 : 0 ≤ (iv 8 5).toInt ∧ (iv 8 5).toInt ≤ 200 := hI.1 8 5
  have hFc := free_all hD hS hA
  refine va_calli (va_runV (As := []) (rest := []) ⟨hx, hb, hml, hown, ht⟩ (c_X8_skipBlanks_r l dC dI s.heap.size h g ca iv lv fa la hI) (kV 0 ht m_688 m_690 m_16 m_82 m_691 rfl rfl hd_X8_skipBlanks_v ⟨Nat.le_of_ble_eq_true rfl, Nat.le_of_ble_eq_true rfl⟩) (vW hP hK hD (rX_8 hK hP)) rfl rfl hl.1 rfl (lv_room (Nat.le_of_ble_eq_true rfl)) dX8_readNumber_1 ⟨Nat.le_of_ble_eq_true rfl, Nat.le_of_ble_eq_true rfl⟩) hS (fun q _ h => hFc q h) hFc (fun r1 u t H1 locs ht9 hvm hr1 hB hz1 hk1 hS => ?_)
  obtain ⟨n2, hn2, xr1_0, xr1_1, hr1, rfl⟩ := hr1
  have hn2 : 0 ≤ n2.toInt ∧ n2.toInt ≤ 200 := hn2
  obtain ⟨hP, hD⟩ := hB
  rw [ht9] at hP
  generalize H1 = H at hP hS ⊢
  have hP : va_P (dC, dI) classes (WX h g ca (u2 iv 8 5 n2) lv fa la) H := hP
  have hD : va_D A (WX h g ca (u2 iv 8 5 n2) lv fa la) := (show va_D _ (WX h g ca (u2 iv 8 5 n2) lv fa la) from hD).weaken (fun _ _ _ h => hFc _ h)
  have i_8_2 : 0 ≤ (iv 8 2).toInt ∧ (iv 8 2).toInt ≤ 200 := hI.1 8 2
  have xr1_0 : Sk (fun j => ((fa 8 1) j).toInt) ((iv 8 2) : Int32).toInt ((iv 8 5) : Int32).toInt (n2 : Int32).toInt := xr1_0
  have xr1_1 : (((r1 : Int32).toInt = 1 ∧ (n2 : Int32).toInt < ((iv 8 2) : Int32).toInt) ∨ ((r1 : Int32).toInt = 0 ∧ ((iv 8 2) : Int32).toInt ≤ (n2 : Int32).toInt)) := xr1_1
  refine lv_pop hx hb dX8_readNumber_4 rfl ?_
  refine lv_aload_n hx hb dX8_readNumber_5 rfl (lv_at hl 0 rfl) ?_
  refine gX_8_5 hx hb ht hown hK hP m_235 (v := n2) rfl dX8_readNumber_6 ?_
  refine lv_istore_n (lv' := [(3, .int n2), (0, .ref (g 11 4)), (1, .int a), (2, .int b)]) hx hb dX8_readNumber_9 rfl hl (by decide) rfl (fun ls hl => ?_)
  refine lv_aload_n hx hb dX8_readNumber_10 rfl (lv_at hl 1 rfl) ?_
  refine lv_bipush (v := 48) hx hb dX8_readNumber_11 (by decide) ?_
  refine lv_bipush (v := 57) hx hb dX8_readNumber_13 (by decide) ?_
  refine vp_callSi (W.runV (As := [.int 48, .int 57]) (rest := []) ⟨hx, hb, hml, hown, ht⟩ (c_X8_endOfRun_r48 l dC dI h g ca (u2 iv 8 5 n2) lv fa la (IX_i (c := 8) (k := 5) hI (show inb (0, 200) n2 from ⟨by omega, by omega⟩))) (kV 2 ht m_701 m_703 m_19 m_82 m_704 rfl rfl hd_X8_endOfRun_v ⟨Nat.le_of_ble_eq_true rfl, Nat.le_of_ble_eq_true rfl⟩) (vR hP hK (rX_8 hK hP)) rfl rfl hl.1 rfl (lv_room (Nat.le_of_ble_eq_true rfl)) dX8_readNumber_15 ⟨Nat.le_of_ble_eq_true rfl, Nat.le_of_ble_eq_true rfl⟩) (fun r3 hr3 => ?_)
  obtain ⟨hr3, xr3_0, xr3_1⟩ := hr3
  have xr3_0 : Rn (fun j => ((fa 8 1) j).toInt) ((iv 8 2) : Int32).toInt 48 57 (n2 : Int32).toInt (r3 : Int32).toInt := xr3_0
  have xr3_1 : (n2 : Int32).toInt ≤ (r3 : Int32).toInt := xr3_1
  refine lv_istore (lv' := [(4, .int r3), (3, .int n2), (0, .ref (g 11 4)), (1, .int a), (2, .int b)]) hx hb dX8_readNumber_18 hl (by decide) rfl (fun ls hl => ?_)
  refine lv_iload hx hb dX8_readNumber_20 (lv_at hl 0 rfl) ?_
  refine lv_iload_n hx hb dX8_readNumber_22 rfl (lv_at hl 1 rfl) ?_
  refine lv_icmp_ne (tgt := 35) hx hb dX8_readNumber_23 (by decide) (fun c4 => ?_) (fun c4 => ?_)
  · have fc4 := z_ne (rfl : (r3).toInt = _) (rfl : (n2).toInt = _) c4
    refine lv_iconst (v := 0) hx hb dX8_readNumber_35 (by decide) ?_
    refine lv_istore (lv' := [(5, .int 0), (4, .int r3), (3, .int n2), (0, .ref (g 11 4)), (1, .int a), (2, .int b)]) hx hb dX8_readNumber_36 hl (by decide) rfl (fun ls hl => ?_)
    refine lv_iload_n hx hb dX8_readNumber_38 rfl (lv_at hl 2 rfl) ?_
    refine lv_istore (lv' := [(6, .int n2), (5, .int 0), (4, .int r3), (3, .int n2), (0, .ref (g 11 4)), (1, .int a), (2, .int b)]) hx hb dX8_readNumber_39 hl (by decide) rfl (fun ls hl => ?_)
    have lp161 : ∀ (nn161 : Nat) (x160_6 : Int32) (x160_5 : Int32), 0 ≤ x160_6.toInt ∧ x160_6.toInt ≤ 200 → 0 ≤ x160_5.toInt ∧ x160_5.toInt ≤ 9999 → ((x160_5 : Int32).toInt = dv (fun j => ((fa 8 1) j).toInt) ((n2 : Int32).toInt).toNat ((x160_6 : Int32).toInt - (n2 : Int32).toInt).toNat) → (n2 : Int32).toInt ≤ (x160_6 : Int32).toInt → (x160_6 : Int32).toInt ≤ (r3 : Int32).toInt → (x160_6 : Int32).toInt ≤ (n2 : Int32).toInt + 4 → 200 - x160_6.toInt < (nn161 : Int) → ∀ (H : Heap) (locs : List Loc), ∀ (ls : Array Slot), va_P (dC, dI) classes (WX h g ca (u2 iv 8 5 n2) lv fa la) H → va_D A (WX h g ca (u2 iv 8 5 n2) lv fa la) → va_S A s.heap H locs → lv_has ls 7 [(6, .int x160_6), (5, .int x160_5), (4, .int r3), (3, .int n2), (0, .ref (g 11 4)), (1, .int a), (2, .int b)] → W p l e ({ frames := 1, cells := 0, slots := 0, locals := 23 } : Room) s m ([.ref (g 11 4), .int a, .int b] : List Value).toArray below meth c H locs 0 0 (MQ below (va_Qi (fun r (u : SS) => ∃ (ni_8_3 : Int32) (ni_8_4 : Int32) (ni_8_5 : Int32), inb (bI 8 3) ni_8_3 ∧ inb (bI 8 4) ni_8_4 ∧ inb (bI 8 5) ni_8_5 ∧ (((r.toInt = -1 ∧ 1 ≤ (ni_8_4).toInt ∧ Num (fun j => ((fa 8 1) j).toInt) (iv 8 2).toInt a.toInt b.toInt (iv 8 5).toInt (ni_8_4).toInt (ni_8_3).toInt 0 0) ∨ (0 ≤ r.toInt ∧ (ni_8_4).toInt = (iv 8 4).toInt ∧ (ni_8_3).toInt = (iv 8 3).toInt ∧ Num (fun j => ((fa 8 1) j).toInt) (iv 8 2).toInt a.toInt b.toInt (iv 8 5).toInt 0 0 r.toInt (ni_8_5).toInt))) ∧ (r.toInt ≤ 9999) ∧ ((-1) ≤ r.toInt ∧ r.toInt ≤ 9999) ∧ u = ((u2 (u2 (u2 iv 8 3 ni_8_3) 8 4 ni_8_4) 8 5 ni_8_5), lv, fa, la)) (bX (dC, dI) h g ca A) A) ([.ref (g 11 4), .int a, .int b] : List Value).toArray s 0 0 A) (F0 m 41 ls []) := by
      intro nn161
      induction nn161 with
      | zero => intro x160_6 x160_5 hx160_6 hx160_5 hq161_0 hq161_1 hq161_2 hq161_3 hm161; exfalso; omega
      | succ nn161 ih161 =>
        intro x160_6 x160_5 hx160_6 hx160_5 hq161_0 hq161_1 hq161_2 hq161_3 hm161 H locs ls hP hD hS hl
        refine lv_iload hx hb dX8_readNumber_41 (lv_at hl 0 rfl) ?_
        refine lv_iload hx hb dX8_readNumber_43 (lv_at hl 2 rfl) ?_
        refine lv_icmp_ge (tgt := 80) hx hb dX8_readNumber_45 (by decide) (fun c162 => ?_) (fun c162 => ?_)
        · have fc162 := z_le (rfl : (r3).toInt = _) (rfl : (x160_6).toInt = _) c162
          refine lv_iload hx hb dX8_readNumber_80 (lv_at hl 2 rfl) ?_
          refine lv_iload_n hx hb dX8_readNumber_82 rfl (lv_at hl 3 rfl) ?_
          refine lv_isub hx hb dX8_readNumber_83 ?_
          refine lv_topi (fun v163 ev163 => ?_)
          have tv163 := z_sub ev163 (rfl : (r3).toInt = _) (rfl : (n2).toInt = _) (by omega) (by omega)
          refine lv_iconst (v := 4) hx hb dX8_readNumber_84 (by decide) ?_
          refine lv_icmp_gt (tgt := 98) hx hb dX8_readNumber_85 (by decide) (fun c164 => ?_) (fun c164 => ?_)
          · have fc164 := z_lt (by decide : (4 : Int32).toInt = 4) (rfl : (v163).toInt = _) c164
            refine lv_aload_n hx hb dX8_readNumber_98 rfl (lv_at hl 4 rfl) ?_
            refine lv_iconst (v := 2) hx hb dX8_readNumber_99 (by decide) ?_
            refine lv_iload_n hx hb dX8_readNumber_100 rfl (lv_at hl 3 rfl) ?_
            have hFc := free_all hD hS hA
            refine va_calli (va_runV (As := [.int 2, .int n2]) (rest := []) ⟨hx, hb, hml, hown, ht⟩ (c_X8_fail_r l dC dI H.size h g ca (u2 iv 8 5 n2) lv fa la (IX_i (c := 8) (k := 5) hI (show inb (0, 200) n2 from ⟨by omega, by omega⟩)) 2 n2 ⟨by decide, by decide⟩ ⟨by omega, by omega⟩) (kV 2 ht m_757 m_759 m_21 m_82 m_760 rfl rfl hd_X8_fail_v ⟨Nat.le_of_ble_eq_true rfl, Nat.le_of_ble_eq_true rfl⟩) (vW hP hK hD (rX_8 hK hP)) rfl rfl hl.1 rfl (lv_room (Nat.le_of_ble_eq_true rfl)) dX8_readNumber_101 ⟨Nat.le_of_ble_eq_true rfl, Nat.le_of_ble_eq_true rfl⟩) hS (fun q _ h => hFc q h) hFc (fun r165 u t H1 locs ht9 hvm hr165 hB hz1 hk1 hS => ?_)
            obtain ⟨n166, n167, hn166, hn167, xr165_0, xr165_1, hr165, rfl⟩ := hr165
            have hn166 : (-1) ≤ n166.toInt ∧ n166.toInt ≤ 200 := hn166
            have hn167 : 0 ≤ n167.toInt ∧ n167.toInt ≤ 5 := hn167
            obtain ⟨hP, hD⟩ := hB
            rw [ht9] at hP
            generalize H1 = H at hP hS ⊢
            have hP : va_P (dC, dI) classes (WX h g ca (u2 (u2 (u2 iv 8 5 n2) 8 3 n166) 8 4 n167) lv fa la) H := hP
            have hD : va_D A (WX h g ca (u2 (u2 (u2 iv 8 5 n2) 8 3 n166) 8 4 n167) lv fa la) := (show va_D _ (WX h g ca (u2 (u2 (u2 iv 8 5 n2) 8 3 n166) 8 4 n167) lv fa la) from hD).weaken (fun _ _ _ h => hFc _ h)
            have : (2 : Int32).toInt = 2 := (by decide)
            have xr165_0 : (n167 : Int32).toInt = (2 : Int32).toInt := xr165_0
            have xr165_1 : (n166 : Int32).toInt = (n2 : Int32).toInt := xr165_1
            refine lv_pop hx hb dX8_readNumber_104 rfl ?_
            refine lv_iconst (v := (-1)) hx hb dX8_readNumber_105 (by decide) ?_
            have : ((-1) : Int32).toInt = (-1) := (by decide)
            have hP9 : va_P (dC, dI) classes (WX h g ca (u2 (u2 (u2 iv 8 3 n166) 8 4 n167) 8 5 n2) lv fa la) H := hP
            have hD9 : va_D A (WX h g ca (u2 (u2 (u2 iv 8 3 n166) 8 4 n167) 8 5 n2) lv fa la) := hD
            exact W.iret (v := (-1)) hx hb hr (fun t ht9 hW => ⟨⟨(-1), ((u2 (u2 (u2 iv 8 3 n166) 8 4 n167) 8 5 n2), lv, fa, la), rfl, ⟨n166, n167, n2, (show inb ((-1), 200) n166 from ⟨by omega, by omega⟩), (show inb (0, 5) n167 from ⟨by omega, by omega⟩), (show inb (0, 200) n2 from ⟨by omega, by omega⟩), (show ((((-1) : Int32).toInt = -1 ∧ 1 ≤ (n167 : Int32).toInt ∧ Num (fun j => ((fa 8 1) j).toInt) ((iv 8 2) : Int32).toInt (a).toInt (b).toInt (iv 8 5).toInt (n167 : Int32).toInt (n166 : Int32).toInt 0 0) ∨ (0 ≤ ((-1) : Int32).toInt ∧ (n167 : Int32).toInt = (iv 8 4).toInt ∧ (n166 : Int32).toInt = (iv 8 3).toInt ∧ Num (fun j => ((fa 8 1) j).toInt) ((iv 8 2) : Int32).toInt (a).toInt (b).toInt (iv 8 5).toInt 0 0 ((-1) : Int32).toInt (n2 : Int32).toInt)) from (by exact Or.inl ⟨by omega, by omega, _, _, xr1_0, xr3_0, Or.inr (Or.inl ⟨by omega, (fun q => by omega), by omega, by omega⟩)⟩)), (show ((-1) : Int32).toInt ≤ 9999 from by omega), ⟨by decide, by decide⟩, rfl⟩, by rw [ht9]; exact hP9, hD9⟩, hS.F ht9⟩) hS.2.2 dX8_readNumber_106
          · have fc164 := z_nlt (by decide : (4 : Int32).toInt = 4) (rfl : (v163).toInt = _) c164
            refine lv_iload hx hb dX8_readNumber_88 (lv_at hl 1 rfl) ?_
            refine lv_iload_n hx hb dX8_readNumber_90 rfl (lv_at hl 5 rfl) ?_
            refine lv_iload_n hx hb dX8_readNumber_91 rfl (lv_at hl 6 rfl) ?_
            refine vp_callSi (run_of (va_runSN (As := [.int x160_5, .int a, .int b]) (rest := []) ⟨hx, hb, hml, hown, ht⟩ (c_X11_within l dC dI x160_5 a b (x160_5.toInt) (a.toInt) (b.toInt) (rfl : (x160_5).toInt = _) (rfl : (a).toInt = _) (rfl : (b).toInt = _)) ⟨va_cnB 3 ht (tb_wc m_455) rfl rfl rfl hZ.2.2.2.2.2.1 (ht _ m_77) hd_X11_within_i ⟨Nat.le_of_ble_eq_true rfl, Nat.le_of_ble_eq_true rfl⟩, ht _ m_454, trivial⟩ (sR noP (hK.sub (tys' := []) [] rfl)) rfl rfl hl.1 rfl (lv_room (Nat.le_of_ble_eq_true rfl)) dX8_readNumber_92 ⟨Nat.le_of_ble_eq_true rfl, Nat.le_of_ble_eq_true rfl⟩)) (fun r168 hr168 => ?_)
            rcases hr168 with ⟨rfl, fr168⟩ | ⟨rfl, fr168⟩
            · skip
              refine lv_if_ne (tgt := 107) hx hb dX8_readNumber_95 (by decide) (fun c169 => ?_) (fun c169 => ?_)
              · skip
                refine lv_aload_n hx hb dX8_readNumber_107 rfl (lv_at hl 4 rfl) ?_
                refine lv_iload hx hb dX8_readNumber_108 (lv_at hl 2 rfl) ?_
                refine pX_8_5 (v := r3) hx hb ht hown hK hP hD hS m_235 dX8_readNumber_110 (fun H locs hP hD hS => ?_)
                have hP : va_P (dC, dI) classes (WX h g ca (u2 iv 8 5 r3) lv fa la) H := hP
                have hD : va_D A (WX h g ca (u2 iv 8 5 r3) lv fa la) := hD
                refine lv_iload hx hb dX8_readNumber_113 (lv_at hl 1 rfl) ?_
                have i_8_4 : 0 ≤ (iv 8 4).toInt ∧ (iv 8 4).toInt ≤ 5 := hI.1 8 4
                have i_8_3 : (-1) ≤ (iv 8 3).toInt ∧ (iv 8 3).toInt ≤ 200 := hI.1 8 3
                have hP9 : va_P (dC, dI) classes (WX h g ca (u2 (u2 (u2 iv 8 3 (iv 8 3)) 8 4 (iv 8 4)) 8 5 r3) lv fa la) H := hP
                have hD9 : va_D A (WX h g ca (u2 (u2 (u2 iv 8 3 (iv 8 3)) 8 4 (iv 8 4)) 8 5 r3) lv fa la) := hD
                exact W.iret (v := x160_5) hx hb hr (fun t ht9 hW => ⟨⟨x160_5, ((u2 (u2 (u2 iv 8 3 (iv 8 3)) 8 4 (iv 8 4)) 8 5 r3), lv, fa, la), rfl, ⟨(iv 8 3), (iv 8 4), r3, (hI.1 8 3), (hI.1 8 4), (show inb (0, 200) r3 from ⟨by omega, by omega⟩), (show (((x160_5 : Int32).toInt = -1 ∧ 1 ≤ ((iv 8 4) : Int32).toInt ∧ Num (fun j => ((fa 8 1) j).toInt) ((iv 8 2) : Int32).toInt (a).toInt (b).toInt (iv 8 5).toInt ((iv 8 4) : Int32).toInt ((iv 8 3) : Int32).toInt 0 0) ∨ (0 ≤ (x160_5 : Int32).toInt ∧ ((iv 8 4) : Int32).toInt = (iv 8 4).toInt ∧ ((iv 8 3) : Int32).toInt = (iv 8 3).toInt ∧ Num (fun j => ((fa 8 1) j).toInt) ((iv 8 2) : Int32).toInt (a).toInt (b).toInt (iv 8 5).toInt 0 0 (x160_5 : Int32).toInt (r3 : Int32).toInt)) from (by have hq9 := hq161_0; have he9 : (x160_6 : Int32).toInt = (r3 : Int32).toInt := (by omega); rw [he9] at hq9; exact Or.inr ⟨by omega, by omega, by omega, _, _, xr1_0, xr3_0, Or.inr (Or.inr ⟨by omega, ⟨by omega, by omega, by omega⟩, by omega, by omega, by omega⟩)⟩)), (show (x160_5 : Int32).toInt ≤ 9999 from by omega), ⟨by omega, by omega⟩, rfl⟩, by rw [ht9]; exact hP9, hD9⟩, hS.F ht9⟩) hS.2.2 dX8_readNumber_115
              · exact absurd c169 (by decide)
            · skip
              refine lv_if_ne (tgt := 107) hx hb dX8_readNumber_95 (by decide) (fun c170 => ?_) (fun c170 => ?_)
              · exact absurd rfl c170
              · skip
                refine lv_aload_n hx hb dX8_readNumber_98 rfl (lv_at hl 4 rfl) ?_
                refine lv_iconst (v := 2) hx hb dX8_readNumber_99 (by decide) ?_
                refine lv_iload_n hx hb dX8_readNumber_100 rfl (lv_at hl 3 rfl) ?_
                have hFc := free_all hD hS hA
                refine va_calli (va_runV (As := [.int 2, .int n2]) (rest := []) ⟨hx, hb, hml, hown, ht⟩ (c_X8_fail_r l dC dI H.size h g ca (u2 iv 8 5 n2) lv fa la (IX_i (c := 8) (k := 5) hI (show inb (0, 200) n2 from ⟨by omega, by omega⟩)) 2 n2 ⟨by decide, by decide⟩ ⟨by omega, by omega⟩) (kV 2 ht m_757 m_759 m_21 m_82 m_760 rfl rfl hd_X8_fail_v ⟨Nat.le_of_ble_eq_true rfl, Nat.le_of_ble_eq_true rfl⟩) (vW hP hK hD (rX_8 hK hP)) rfl rfl hl.1 rfl (lv_room (Nat.le_of_ble_eq_true rfl)) dX8_readNumber_101 ⟨Nat.le_of_ble_eq_true rfl, Nat.le_of_ble_eq_true rfl⟩) hS (fun q _ h => hFc q h) hFc (fun r171 u t H1 locs ht9 hvm hr171 hB hz1 hk1 hS => ?_)
                obtain ⟨n172, n173, hn172, hn173, xr171_0, xr171_1, hr171, rfl⟩ := hr171
                have hn172 : (-1) ≤ n172.toInt ∧ n172.toInt ≤ 200 := hn172
                have hn173 : 0 ≤ n173.toInt ∧ n173.toInt ≤ 5 := hn173
                obtain ⟨hP, hD⟩ := hB
                rw [ht9] at hP
                generalize H1 = H at hP hS ⊢
                have hP : va_P (dC, dI) classes (WX h g ca (u2 (u2 (u2 iv 8 5 n2) 8 3 n172) 8 4 n173) lv fa la) H := hP
                have hD : va_D A (WX h g ca (u2 (u2 (u2 iv 8 5 n2) 8 3 n172) 8 4 n173) lv fa la) := (show va_D _ (WX h g ca (u2 (u2 (u2 iv 8 5 n2) 8 3 n172) 8 4 n173) lv fa la) from hD).weaken (fun _ _ _ h => hFc _ h)
                have : (2 : Int32).toInt = 2 := (by decide)
                have xr171_0 : (n173 : Int32).toInt = (2 : Int32).toInt := xr171_0
                have xr171_1 : (n172 : Int32).toInt = (n2 : Int32).toInt := xr171_1
                refine lv_pop hx hb dX8_readNumber_104 rfl ?_
                refine lv_iconst (v := (-1)) hx hb dX8_readNumber_105 (by decide) ?_
                have : ((-1) : Int32).toInt = (-1) := (by decide)
                have hP9 : va_P (dC, dI) classes (WX h g ca (u2 (u2 (u2 iv 8 3 n172) 8 4 n173) 8 5 n2) lv fa la) H := hP
                have hD9 : va_D A (WX h g ca (u2 (u2 (u2 iv 8 3 n172) 8 4 n173) 8 5 n2) lv fa la) := hD
                exact W.iret (v := (-1)) hx hb hr (fun t ht9 hW => ⟨⟨(-1), ((u2 (u2 (u2 iv 8 3 n172) 8 4 n173) 8 5 n2), lv, fa, la), rfl, ⟨n172, n173, n2, (show inb ((-1), 200) n172 from ⟨by omega, by omega⟩), (show inb (0, 5) n173 from ⟨by omega, by omega⟩), (show inb (0, 200) n2 from ⟨by omega, by omega⟩), (show ((((-1) : Int32).toInt = -1 ∧ 1 ≤ (n173 : Int32).toInt ∧ Num (fun j => ((fa 8 1) j).toInt) ((iv 8 2) : Int32).toInt (a).toInt (b).toInt (iv 8 5).toInt (n173 : Int32).toInt (n172 : Int32).toInt 0 0) ∨ (0 ≤ ((-1) : Int32).toInt ∧ (n173 : Int32).toInt = (iv 8 4).toInt ∧ (n172 : Int32).toInt = (iv 8 3).toInt ∧ Num (fun j => ((fa 8 1) j).toInt) ((iv 8 2) : Int32).toInt (a).toInt (b).toInt (iv 8 5).toInt 0 0 ((-1) : Int32).toInt (n2 : Int32).toInt)) from (by have hq9 := hq161_0; have he9 : (x160_6 : Int32).toInt = (r3 : Int32).toInt := (by omega); rw [he9] at hq9; exact Or.inl ⟨by omega, by omega, _, _, xr1_0, xr3_0, Or.inr (Or.inl ⟨by omega, (fun q => by omega), by omega, by omega⟩)⟩)), (show ((-1) : Int32).toInt ≤ 9999 from by omega), ⟨by decide, by decide⟩, rfl⟩, by rw [ht9]; exact hP9, hD9⟩, hS.F ht9⟩) hS.2.2 dX8_readNumber_106
        · have fc162 := z_nle (rfl : (r3).toInt = _) (rfl : (x160_6).toInt = _) c162
          refine lv_iload hx hb dX8_readNumber_48 (lv_at hl 0 rfl) ?_
          refine lv_iload_n hx hb dX8_readNumber_50 rfl (lv_at hl 3 rfl) ?_
          refine lv_iconst (v := 4) hx hb dX8_readNumber_51 (by decide) ?_
          refine lv_iadd hx hb dX8_readNumber_52 ?_
          refine lv_topi (fun v174 ev174 => ?_)
          have tv174 := z_add ev174 (rfl : (n2).toInt = _) (by decide : (4 : Int32).toInt = 4) (by omega) (by omega)
          refine lv_icmp_ge (tgt := 80) hx hb dX8_readNumber_53 (by decide) (fun c175 => ?_) (fun c175 => ?_)
          · have fc175 := z_le (rfl : (v174).toInt = _) (rfl : (x160_6).toInt = _) c175
            refine lv_iload hx hb dX8_readNumber_80 (lv_at hl 2 rfl) ?_
            refine lv_iload_n hx hb dX8_readNumber_82 rfl (lv_at hl 3 rfl) ?_
            refine lv_isub hx hb dX8_readNumber_83 ?_
            refine lv_topi (fun v176 ev176 => ?_)
            have tv176 := z_sub ev176 (rfl : (r3).toInt = _) (rfl : (n2).toInt = _) (by omega) (by omega)
            refine lv_iconst (v := 4) hx hb dX8_readNumber_84 (by decide) ?_
            refine lv_icmp_gt (tgt := 98) hx hb dX8_readNumber_85 (by decide) (fun c177 => ?_) (fun c177 => ?_)
            · have fc177 := z_lt (by decide : (4 : Int32).toInt = 4) (rfl : (v176).toInt = _) c177
              refine lv_aload_n hx hb dX8_readNumber_98 rfl (lv_at hl 4 rfl) ?_
              refine lv_iconst (v := 2) hx hb dX8_readNumber_99 (by decide) ?_
              refine lv_iload_n hx hb dX8_readNumber_100 rfl (lv_at hl 3 rfl) ?_
              have hFc := free_all hD hS hA
              refine va_calli (va_runV (As := [.int 2, .int n2]) (rest := []) ⟨hx, hb, hml, hown, ht⟩ (c_X8_fail_r l dC dI H.size h g ca (u2 iv 8 5 n2) lv fa la (IX_i (c := 8) (k := 5) hI (show inb (0, 200) n2 from ⟨by omega, by omega⟩)) 2 n2 ⟨by decide, by decide⟩ ⟨by omega, by omega⟩) (kV 2 ht m_757 m_759 m_21 m_82 m_760 rfl rfl hd_X8_fail_v ⟨Nat.le_of_ble_eq_true rfl, Nat.le_of_ble_eq_true rfl⟩) (vW hP hK hD (rX_8 hK hP)) rfl rfl hl.1 rfl (lv_room (Nat.le_of_ble_eq_true rfl)) dX8_readNumber_101 ⟨Nat.le_of_ble_eq_true rfl, Nat.le_of_ble_eq_true rfl⟩) hS (fun q _ h => hFc q h) hFc (fun r178 u t H1 locs ht9 hvm hr178 hB hz1 hk1 hS => ?_)
              obtain ⟨n179, n180, hn179, hn180, xr178_0, xr178_1, hr178, rfl⟩ := hr178
              have hn179 : (-1) ≤ n179.toInt ∧ n179.toInt ≤ 200 := hn179
              have hn180 : 0 ≤ n180.toInt ∧ n180.toInt ≤ 5 := hn180
              obtain ⟨hP, hD⟩ := hB
              rw [ht9] at hP
              generalize H1 = H at hP hS ⊢
              have hP : va_P (dC, dI) classes (WX h g ca (u2 (u2 (u2 iv 8 5 n2) 8 3 n179) 8 4 n180) lv fa la) H := hP
              have hD : va_D A (WX h g ca (u2 (u2 (u2 iv 8 5 n2) 8 3 n179) 8 4 n180) lv fa la) := (show va_D _ (WX h g ca (u2 (u2 (u2 iv 8 5 n2) 8 3 n179) 8 4 n180) lv fa la) from hD).weaken (fun _ _ _ h => hFc _ h)
              have : (2 : Int32).toInt = 2 := (by decide)
              have xr178_0 : (n180 : Int32).toInt = (2 : Int32).toInt := xr178_0
              have xr178_1 : (n179 : Int32).toInt = (n2 : Int32).toInt := xr178_1
              refine lv_pop hx hb dX8_readNumber_104 rfl ?_
              refine lv_iconst (v := (-1)) hx hb dX8_readNumber_105 (by decide) ?_
              have : ((-1) : Int32).toInt = (-1) := (by decide)
              have hP9 : va_P (dC, dI) classes (WX h g ca (u2 (u2 (u2 iv 8 3 n179) 8 4 n180) 8 5 n2) lv fa la) H := hP
              have hD9 : va_D A (WX h g ca (u2 (u2 (u2 iv 8 3 n179) 8 4 n180) 8 5 n2) lv fa la) := hD
              exact W.iret (v := (-1)) hx hb hr (fun t ht9 hW => ⟨⟨(-1), ((u2 (u2 (u2 iv 8 3 n179) 8 4 n180) 8 5 n2), lv, fa, la), rfl, ⟨n179, n180, n2, (show inb ((-1), 200) n179 from ⟨by omega, by omega⟩), (show inb (0, 5) n180 from ⟨by omega, by omega⟩), (show inb (0, 200) n2 from ⟨by omega, by omega⟩), (show ((((-1) : Int32).toInt = -1 ∧ 1 ≤ (n180 : Int32).toInt ∧ Num (fun j => ((fa 8 1) j).toInt) ((iv 8 2) : Int32).toInt (a).toInt (b).toInt (iv 8 5).toInt (n180 : Int32).toInt (n179 : Int32).toInt 0 0) ∨ (0 ≤ ((-1) : Int32).toInt ∧ (n180 : Int32).toInt = (iv 8 4).toInt ∧ (n179 : Int32).toInt = (iv 8 3).toInt ∧ Num (fun j => ((fa 8 1) j).toInt) ((iv 8 2) : Int32).toInt (a).toInt (b).toInt (iv 8 5).toInt 0 0 ((-1) : Int32).toInt (n2 : Int32).toInt)) from (by exact Or.inl ⟨by omega, by omega, _, _, xr1_0, xr3_0, Or.inr (Or.inl ⟨by omega, (fun q => by omega), by omega, by omega⟩)⟩)), (show ((-1) : Int32).toInt ≤ 9999 from by omega), ⟨by decide, by decide⟩, rfl⟩, by rw [ht9]; exact hP9, hD9⟩, hS.F ht9⟩) hS.2.2 dX8_readNumber_106
            · have fc177 := z_nlt (by decide : (4 : Int32).toInt = 4) (rfl : (v176).toInt = _) c177
              refine lv_iload hx hb dX8_readNumber_88 (lv_at hl 1 rfl) ?_
              refine lv_iload_n hx hb dX8_readNumber_90 rfl (lv_at hl 5 rfl) ?_
              refine lv_iload_n hx hb dX8_readNumber_91 rfl (lv_at hl 6 rfl) ?_
              refine vp_callSi (run_of (va_runSN (As := [.int x160_5, .int a, .int b]) (rest := []) ⟨hx, hb, hml, hown, ht⟩ (c_X11_within l dC dI x160_5 a b (x160_5.toInt) (a.toInt) (b.toInt) (rfl : (x160_5).toInt = _) (rfl : (a).toInt = _) (rfl : (b).toInt = _)) ⟨va_cnB 3 ht (tb_wc m_455) rfl rfl rfl hZ.2.2.2.2.2.1 (ht _ m_77) hd_X11_within_i ⟨Nat.le_of_ble_eq_true rfl, Nat.le_of_ble_eq_true rfl⟩, ht _ m_454, trivial⟩ (sR noP (hK.sub (tys' := []) [] rfl)) rfl rfl hl.1 rfl (lv_room (Nat.le_of_ble_eq_true rfl)) dX8_readNumber_92 ⟨Nat.le_of_ble_eq_true rfl, Nat.le_of_ble_eq_true rfl⟩)) (fun r181 hr181 => ?_)
              rcases hr181 with ⟨rfl, fr181⟩ | ⟨rfl, fr181⟩
              · skip
                refine lv_if_ne (tgt := 107) hx hb dX8_readNumber_95 (by decide) (fun c182 => ?_) (fun c182 => ?_)
                · skip
                  refine lv_aload_n hx hb dX8_readNumber_107 rfl (lv_at hl 4 rfl) ?_
                  refine lv_iload hx hb dX8_readNumber_108 (lv_at hl 2 rfl) ?_
                  refine pX_8_5 (v := r3) hx hb ht hown hK hP hD hS m_235 dX8_readNumber_110 (fun H locs hP hD hS => ?_)
                  have hP : va_P (dC, dI) classes (WX h g ca (u2 iv 8 5 r3) lv fa la) H := hP
                  have hD : va_D A (WX h g ca (u2 iv 8 5 r3) lv fa la) := hD
                  refine lv_iload hx hb dX8_readNumber_113 (lv_at hl 1 rfl) ?_
                  have i_8_4 : 0 ≤ (iv 8 4).toInt ∧ (iv 8 4).toInt ≤ 5 := hI.1 8 4
                  have i_8_3 : (-1) ≤ (iv 8 3).toInt ∧ (iv 8 3).toInt ≤ 200 := hI.1 8 3
                  have hP9 : va_P (dC, dI) classes (WX h g ca (u2 (u2 (u2 iv 8 3 (iv 8 3)) 8 4 (iv 8 4)) 8 5 r3) lv fa la) H := hP
                  have hD9 : va_D A (WX h g ca (u2 (u2 (u2 iv 8 3 (iv 8 3)) 8 4 (iv 8 4)) 8 5 r3) lv fa la) := hD
                  exact W.iret (v := x160_5) hx hb hr (fun t ht9 hW => ⟨⟨x160_5, ((u2 (u2 (u2 iv 8 3 (iv 8 3)) 8 4 (iv 8 4)) 8 5 r3), lv, fa, la), rfl, ⟨(iv 8 3), (iv 8 4), r3, (hI.1 8 3), (hI.1 8 4), (show inb (0, 200) r3 from ⟨by omega, by omega⟩), (show (((x160_5 : Int32).toInt = -1 ∧ 1 ≤ ((iv 8 4) : Int32).toInt ∧ Num (fun j => ((fa 8 1) j).toInt) ((iv 8 2) : Int32).toInt (a).toInt (b).toInt (iv 8 5).toInt ((iv 8 4) : Int32).toInt ((iv 8 3) : Int32).toInt 0 0) ∨ (0 ≤ (x160_5 : Int32).toInt ∧ ((iv 8 4) : Int32).toInt = (iv 8 4).toInt ∧ ((iv 8 3) : Int32).toInt = (iv 8 3).toInt ∧ Num (fun j => ((fa 8 1) j).toInt) ((iv 8 2) : Int32).toInt (a).toInt (b).toInt (iv 8 5).toInt 0 0 (x160_5 : Int32).toInt (r3 : Int32).toInt)) from (by have hq9 := hq161_0; have he9 : (x160_6 : Int32).toInt = (r3 : Int32).toInt := (by omega); rw [he9] at hq9; exact Or.inr ⟨by omega, by omega, by omega, _, _, xr1_0, xr3_0, Or.inr (Or.inr ⟨by omega, ⟨by omega, by omega, by omega⟩, by omega, by omega, by omega⟩)⟩)), (show (x160_5 : Int32).toInt ≤ 9999 from by omega), ⟨by omega, by omega⟩, rfl⟩, by rw [ht9]; exact hP9, hD9⟩, hS.F ht9⟩) hS.2.2 dX8_readNumber_115
                · exact absurd c182 (by decide)
              · skip
                refine lv_if_ne (tgt := 107) hx hb dX8_readNumber_95 (by decide) (fun c183 => ?_) (fun c183 => ?_)
                · exact absurd rfl c183
                · skip
                  refine lv_aload_n hx hb dX8_readNumber_98 rfl (lv_at hl 4 rfl) ?_
                  refine lv_iconst (v := 2) hx hb dX8_readNumber_99 (by decide) ?_
                  refine lv_iload_n hx hb dX8_readNumber_100 rfl (lv_at hl 3 rfl) ?_
                  have hFc := free_all hD hS hA
                  refine va_calli (va_runV (As := [.int 2, .int n2]) (rest := []) ⟨hx, hb, hml, hown, ht⟩ (c_X8_fail_r l dC dI H.size h g ca (u2 iv 8 5 n2) lv fa la (IX_i (c := 8) (k := 5) hI (show inb (0, 200) n2 from ⟨by omega, by omega⟩)) 2 n2 ⟨by decide, by decide⟩ ⟨by omega, by omega⟩) (kV 2 ht m_757 m_759 m_21 m_82 m_760 rfl rfl hd_X8_fail_v ⟨Nat.le_of_ble_eq_true rfl, Nat.le_of_ble_eq_true rfl⟩) (vW hP hK hD (rX_8 hK hP)) rfl rfl hl.1 rfl (lv_room (Nat.le_of_ble_eq_true rfl)) dX8_readNumber_101 ⟨Nat.le_of_ble_eq_true rfl, Nat.le_of_ble_eq_true rfl⟩) hS (fun q _ h => hFc q h) hFc (fun r184 u t H1 locs ht9 hvm hr184 hB hz1 hk1 hS => ?_)
                  obtain ⟨n185, n186, hn185, hn186, xr184_0, xr184_1, hr184, rfl⟩ := hr184
                  have hn185 : (-1) ≤ n185.toInt ∧ n185.toInt ≤ 200 := hn185
                  have hn186 : 0 ≤ n186.toInt ∧ n186.toInt ≤ 5 := hn186
                  obtain ⟨hP, hD⟩ := hB
                  rw [ht9] at hP
                  generalize H1 = H at hP hS ⊢
                  have hP : va_P (dC, dI) classes (WX h g ca (u2 (u2 (u2 iv 8 5 n2) 8 3 n185) 8 4 n186) lv fa la) H := hP
                  have hD : va_D A (WX h g ca (u2 (u2 (u2 iv 8 5 n2) 8 3 n185) 8 4 n186) lv fa la) := (show va_D _ (WX h g ca (u2 (u2 (u2 iv 8 5 n2) 8 3 n185) 8 4 n186) lv fa la) from hD).weaken (fun _ _ _ h => hFc _ h)
                  have : (2 : Int32).toInt = 2 := (by decide)
                  have xr184_0 : (n186 : Int32).toInt = (2 : Int32).toInt := xr184_0
                  have xr184_1 : (n185 : Int32).toInt = (n2 : Int32).toInt := xr184_1
                  refine lv_pop hx hb dX8_readNumber_104 rfl ?_
                  refine lv_iconst (v := (-1)) hx hb dX8_readNumber_105 (by decide) ?_
                  have : ((-1) : Int32).toInt = (-1) := (by decide)
                  have hP9 : va_P (dC, dI) classes (WX h g ca (u2 (u2 (u2 iv 8 3 n185) 8 4 n186) 8 5 n2) lv fa la) H := hP
                  have hD9 : va_D A (WX h g ca (u2 (u2 (u2 iv 8 3 n185) 8 4 n186) 8 5 n2) lv fa la) := hD
                  exact W.iret (v := (-1)) hx hb hr (fun t ht9 hW => ⟨⟨(-1), ((u2 (u2 (u2 iv 8 3 n185) 8 4 n186) 8 5 n2), lv, fa, la), rfl, ⟨n185, n186, n2, (show inb ((-1), 200) n185 from ⟨by omega, by omega⟩), (show inb (0, 5) n186 from ⟨by omega, by omega⟩), (show inb (0, 200) n2 from ⟨by omega, by omega⟩), (show ((((-1) : Int32).toInt = -1 ∧ 1 ≤ (n186 : Int32).toInt ∧ Num (fun j => ((fa 8 1) j).toInt) ((iv 8 2) : Int32).toInt (a).toInt (b).toInt (iv 8 5).toInt (n186 : Int32).toInt (n185 : Int32).toInt 0 0) ∨ (0 ≤ ((-1) : Int32).toInt ∧ (n186 : Int32).toInt = (iv 8 4).toInt ∧ (n185 : Int32).toInt = (iv 8 3).toInt ∧ Num (fun j => ((fa 8 1) j).toInt) ((iv 8 2) : Int32).toInt (a).toInt (b).toInt (iv 8 5).toInt 0 0 ((-1) : Int32).toInt (n2 : Int32).toInt)) from (by have hq9 := hq161_0; have he9 : (x160_6 : Int32).toInt = (r3 : Int32).toInt := (by omega); rw [he9] at hq9; exact Or.inl ⟨by omega, by omega, _, _, xr1_0, xr3_0, Or.inr (Or.inl ⟨by omega, (fun q => by omega), by omega, by omega⟩)⟩)), (show ((-1) : Int32).toInt ≤ 9999 from by omega), ⟨by decide, by decide⟩, rfl⟩, by rw [ht9]; exact hP9, hD9⟩, hS.F ht9⟩) hS.2.2 dX8_readNumber_106
          · have fc175 := z_nle (rfl : (v174).toInt = _) (rfl : (x160_6).toInt = _) c175
            have hb9 := dv_r (t := (fun j => (fa 8 1 j).toInt)) (k := (x160_6 : Int32).toInt) (by omega) xr3_0.2.1 (by omega) (by omega)
            have : 0 ≤ (x160_5 : Int32).toInt ∧ (x160_5 : Int32).toInt ≤ 999 := ⟨by omega, by omega⟩
            refine lv_bipush (v := 10) hx hb dX8_readNumber_56 (by decide) ?_
            refine lv_iload hx hb dX8_readNumber_58 (lv_at hl 1 rfl) ?_
            refine lv_imul hx hb dX8_readNumber_60 ?_
            refine lv_topi (fun v187 ev187 => ?_)
            have tv187 := z_mul ev187 (by decide : (10 : Int32).toInt = 10) (rfl : (x160_5).toInt = _) (by omega) (by omega)
            refine lv_aload_n hx hb dX8_readNumber_61 rfl (lv_at hl 4 rfl) ?_
            refine gX_8_1 hx hb ht hown hK hP m_229 dX8_readNumber_62 ?_
            refine lv_iload hx hb dX8_readNumber_65 (lv_at hl 0 rfl) ?_
            refine lX_8_1 hx hb hK hP (f := (fa 8 1)) rfl (vp_in_iff.mpr ⟨by omega, by omega⟩) dX8_readNumber_67 ?_
            refine lv_topi (fun v188 ev188 => ?_)
            have hd9 : 48 ≤ (fa 8 1 ((x160_6 : Int32).toInt).toNat).toInt ∧ (fa 8 1 ((x160_6 : Int32).toInt).toNat).toInt ≤ 57 := (xr3_0.2.1 ((x160_6 : Int32).toInt).toNat (by omega) (by omega)).2
            have hv9 := congrArg Int32.toInt (show v188 = (fa 8 1) ((x160_6 : Int32).toInt).toNat from ev188)
            have : 48 ≤ (v188 : Int32).toInt ∧ (v188 : Int32).toInt ≤ 57 := ⟨by omega, by omega⟩
            refine lv_bipush (v := 48) hx hb dX8_readNumber_68 (by decide) ?_
            refine lv_isub hx hb dX8_readNumber_70 ?_
            refine lv_topi (fun v189 ev189 => ?_)
            have tv189 := z_sub ev189 (rfl : (v188).toInt = _) (by decide : (48 : Int32).toInt = 48) (by omega) (by omega)
            refine lv_iadd hx hb dX8_readNumber_71 ?_
            refine lv_topi (fun v190 ev190 => ?_)
            have tv190 := z_add ev190 (rfl : (v187).toInt = _) (rfl : (v189).toInt = _) (by omega) (by omega)
            refine lv_istore (lv' := [(5, .int v190), (6, .int x160_6), (4, .int r3), (3, .int n2), (0, .ref (g 11 4)), (1, .int a), (2, .int b)]) hx hb dX8_readNumber_72 hl (by decide) rfl (fun ls hl => ?_)
            obtain ⟨v191, ev191⟩ : ∃ y : Int32, y = x160_6 + 1 := ⟨_, rfl⟩
            have tv191 := z_add ev191 rfl (by decide : (1 : Int32).toInt = 1) (by omega) (by omega)
            refine lv_iinc (v := v191) (lv' := [(6, .int v191), (5, .int v190), (4, .int r3), (3, .int n2), (0, .ref (g 11 4)), (1, .int a), (2, .int b)]) hx hb dX8_readNumber_74 hl (k := 1) rfl (by rw [ev191]; rfl) (by decide) rfl (fun ls hl => ?_)
            refine lv_goto (tgt := 41) hx hb dX8_readNumber_77 (by decide) ?_
            exact ih161 v191 v190 ⟨by omega, by omega⟩ ⟨by omega, by omega⟩ (show (v190 : Int32).toInt = dv (fun j => ((fa 8 1) j).toInt) ((n2 : Int32).toInt).toNat ((v191 : Int32).toInt - (n2 : Int32).toInt).toNat from (by have hc := dv_s (t := (fun j => (fa 8 1 j).toInt)) (s := (n2 : Int32).toInt) (k := (x160_6 : Int32).toInt) (k' := (v191 : Int32).toInt) (x := (v188 : Int32).toInt) (by omega) (by omega) (by omega) (congrArg Int32.toInt ev188); have hq9 := hq161_0; rw [hc]; omega)) (show (n2 : Int32).toInt ≤ (v191 : Int32).toInt from by omega) (show (v191 : Int32).toInt ≤ (r3 : Int32).toInt from by omega) (show (v191 : Int32).toInt ≤ (n2 : Int32).toInt + 4 from by omega) (by omega) _ _ ls hP hD hS (lv_sub hl [0, 1, 2, 3, 4, 5, 6] rfl)
    have : (0 : Int32).toInt = 0 := (by decide)
    exact lp161 201 n2 0 ⟨by omega, by omega⟩ ⟨by decide, by decide⟩ (show (0 : Int32).toInt = dv (fun j => ((fa 8 1) j).toInt) ((n2 : Int32).toInt).toNat ((n2 : Int32).toInt - (n2 : Int32).toInt).toNat from (by rw [Int.sub_self]; exact (by decide : (0 : Int32).toInt = 0))) (show (n2 : Int32).toInt ≤ (n2 : Int32).toInt from by omega) (show (n2 : Int32).toInt ≤ (r3 : Int32).toInt from by omega) (show (n2 : Int32).toInt ≤ (n2 : Int32).toInt + 4 from by omega) (by first | decide | omega) _ _ ls hP hD hS (lv_sub hl [0, 1, 2, 3, 4, 5, 6] rfl)
  · have fc4 := z_eq (rfl : (r3).toInt = _) (rfl : (n2).toInt = _) c4
    refine lv_aload_n hx hb dX8_readNumber_26 rfl (lv_at hl 2 rfl) ?_
    refine lv_iconst (v := 1) hx hb dX8_readNumber_27 (by decide) ?_
    refine lv_iload_n hx hb dX8_readNumber_28 rfl (lv_at hl 1 rfl) ?_
    have hFc := free_all hD hS hA
    refine va_calli (va_runV (As := [.int 1, .int n2]) (rest := []) ⟨hx, hb, hml, hown, ht⟩ (c_X8_fail_r l dC dI H.size h g ca (u2 iv 8 5 n2) lv fa la (IX_i (c := 8) (k := 5) hI (show inb (0, 200) n2 from ⟨by omega, by omega⟩)) 1 n2 ⟨by decide, by decide⟩ ⟨by omega, by omega⟩) (kV 2 ht m_757 m_759 m_21 m_82 m_760 rfl rfl hd_X8_fail_v ⟨Nat.le_of_ble_eq_true rfl, Nat.le_of_ble_eq_true rfl⟩) (vW hP hK hD (rX_8 hK hP)) rfl rfl hl.1 rfl (lv_room (Nat.le_of_ble_eq_true rfl)) dX8_readNumber_29 ⟨Nat.le_of_ble_eq_true rfl, Nat.le_of_ble_eq_true rfl⟩) hS (fun q _ h => hFc q h) hFc (fun r192 u t H1 locs ht9 hvm hr192 hB hz1 hk1 hS => ?_)
    obtain ⟨n193, n194, hn193, hn194, xr192_0, xr192_1, hr192, rfl⟩ := hr192
    have hn193 : (-1) ≤ n193.toInt ∧ n193.toInt ≤ 200 := hn193
    have hn194 : 0 ≤ n194.toInt ∧ n194.toInt ≤ 5 := hn194
    obtain ⟨hP, hD⟩ := hB
    rw [ht9] at hP
    generalize H1 = H at hP hS ⊢
    have hP : va_P (dC, dI) classes (WX h g ca (u2 (u2 (u2 iv 8 5 n2) 8 3 n193) 8 4 n194) lv fa la) H := hP
    have hD : va_D A (WX h g ca (u2 (u2 (u2 iv 8 5 n2) 8 3 n193) 8 4 n194) lv fa la) := (show va_D _ (WX h g ca (u2 (u2 (u2 iv 8 5 n2) 8 3 n193) 8 4 n194) lv fa la) from hD).weaken (fun _ _ _ h => hFc _ h)
    have : (1 : Int32).toInt = 1 := (by decide)
    have xr192_0 : (n194 : Int32).toInt = (1 : Int32).toInt := xr192_0
    have xr192_1 : (n193 : Int32).toInt = (n2 : Int32).toInt := xr192_1
    refine lv_pop hx hb dX8_readNumber_32 rfl ?_
    refine lv_iconst (v := (-1)) hx hb dX8_readNumber_33 (by decide) ?_
    have : ((-1) : Int32).toInt = (-1) := (by decide)
    have hP9 : va_P (dC, dI) classes (WX h g ca (u2 (u2 (u2 iv 8 3 n193) 8 4 n194) 8 5 n2) lv fa la) H := hP
    have hD9 : va_D A (WX h g ca (u2 (u2 (u2 iv 8 3 n193) 8 4 n194) 8 5 n2) lv fa la) := hD
    exact W.iret (v := (-1)) hx hb hr (fun t ht9 hW => ⟨⟨(-1), ((u2 (u2 (u2 iv 8 3 n193) 8 4 n194) 8 5 n2), lv, fa, la), rfl, ⟨n193, n194, n2, (show inb ((-1), 200) n193 from ⟨by omega, by omega⟩), (show inb (0, 5) n194 from ⟨by omega, by omega⟩), (show inb (0, 200) n2 from ⟨by omega, by omega⟩), (show ((((-1) : Int32).toInt = -1 ∧ 1 ≤ (n194 : Int32).toInt ∧ Num (fun j => ((fa 8 1) j).toInt) ((iv 8 2) : Int32).toInt (a).toInt (b).toInt (iv 8 5).toInt (n194 : Int32).toInt (n193 : Int32).toInt 0 0) ∨ (0 ≤ ((-1) : Int32).toInt ∧ (n194 : Int32).toInt = (iv 8 4).toInt ∧ (n193 : Int32).toInt = (iv 8 3).toInt ∧ Num (fun j => ((fa 8 1) j).toInt) ((iv 8 2) : Int32).toInt (a).toInt (b).toInt (iv 8 5).toInt 0 0 ((-1) : Int32).toInt (n2 : Int32).toInt)) from Or.inl ⟨by omega, by omega, _, _, xr1_0, xr3_0, Or.inl ⟨by omega, by omega, by omega⟩⟩), (show ((-1) : Int32).toInt ≤ 9999 from by omega), ⟨by decide, by decide⟩, rfl⟩, by rw [ht9]; exact hP9, hD9⟩, hS.F ht9⟩) hS.2.2 dX8_readNumber_34
set_option maxHeartbeats 4000000 in
set_option maxRecDepth 100000 in
/-- X8_readStop -/
theorem c_X8_readStop_r (l : Launch) (dC : Nat → ClassId) (dI : Nat → Nat → Nat) (sz : Nat) (h : Nat) (g : Nat → Nat → Nat) (ca : Nat → Nat → ClassId) (iv : Nat → Nat → Int32) (lv : Nat → Nat → Int64) (fa : Nat → Nat → Nat → Int32) (la : Nat → Nat → Nat → Int64) (hI : IX iv fa) : Met l yX8_readStop (wc yX8_readStop cX8_readStop 1 (some .boolean)) ({ frames := 1, cells := 0, slots := 0, locals := 22 } : Room) (pW (dC, dI) classes (WX h g ca iv lv fa la) (TX ca) sz [.ref (g 11 4)]) (va_Qi (fun r (u : SS) => ∃ (ni_8_3 : Int32) (ni_8_4 : Int32) (ni_8_5 : Int32), inb (bI 8 3) ni_8_3 ∧ inb (bI 8 4) ni_8_4 ∧ inb (bI 8 5) ni_8_5 ∧ (((r.toInt = 0 ∧ 1 ≤ (ni_8_4).toInt ∧ StpR (fun j => ((fa 8 1) j).toInt) (iv 8 2).toInt (iv 8 5).toInt (ni_8_4).toInt (ni_8_3).toInt 0) ∨ (r.toInt = 1 ∧ (ni_8_4).toInt = (iv 8 4).toInt ∧ (ni_8_3).toInt = (iv 8 3).toInt ∧ StpR (fun j => ((fa 8 1) j).toInt) (iv 8 2).toInt (iv 8 5).toInt 0 0 (ni_8_5).toInt))) ∧ (0 ≤ r.toInt ∧ r.toInt ≤ 1) ∧ u = ((u2 (u2 (u2 iv 8 3 ni_8_3) 8 4 ni_8_4) 8 5 ni_8_5), lv, fa, la)) (bX (dC, dI) h g ca (va_A (WX h g ca iv lv fa la) sz)) (va_A (WX h g ca iv lv fa la) sz)) 0 0 (va_A (WX h g ca iv lv fa la) sz) := by
  refine Met.ofW (cc := cX8_readStop) (maxL := 1) (ret := (some .boolean)) (by decide) rfl ?_
  intro p e s m args below meth c s₁ B hml hv
  obtain ⟨rfl, hsz, hP, hK, hD0⟩ := hv
  have hx := B.exec
  have hb := B.bytes
  have hr := B.returns
  have ht := tb_tl (atoms_spec (ws := wc yX8_readStop cX8_readStop 1 (some .boolean)) B.pre)
  have hown : s.vm.findClass RX8 = some m.cls := findClass_of_methodNamed B.named
  have hlocks := B.notSynchronized
  subst hsz
  have hD := hD0.self (sz := s.heap.size)
  generalize hAe : va_A (WX h g ca iv lv fa la) s.heap.size = A at hD ⊢
  have hA : ∀ q : Nat, s.heap.size ≤ q → A q := fun q h => by rw [← hAe]; exact Or.inr h
  have hS : va_S A s.heap s.heap [] := va_S.rf
  have hl := lv_entry [.ref (g 11 4)] (n := 1) (Nat.le_of_ble_eq_true rfl)
  rw [lg_entry_eq]
  generalize (lg_sl [.ref (g 11 4)] ++ List.replicate (1 - (lg_sl [.ref (g 11 4)]).length) Slot.unset).toArray = ls at hl ⊢
  have hl : lv_has ls 1 [(0, .ref (g 11 4))] := hl
  refine lv_aload_n hx hb dX8_readStop_0 rfl (lv_at hl 0 rfl) ?_
  have i_8_5 : 0 ≤ (iv 8 5).toInt ∧ (iv 8 5).toInt ≤ 200 := hI.1 8 5
  have hFc := free_all hD hS hA
  refine va_calli (va_runV (As := []) (rest := []) ⟨hx, hb, hml, hown, ht⟩ (c_X8_skipBlanks_r l dC dI s.heap.size h g ca iv lv fa la hI) (kV 0 ht m_688 m_690 m_16 m_82 m_691 rfl rfl hd_X8_skipBlanks_v ⟨Nat.le_of_ble_eq_true rfl, Nat.le_of_ble_eq_true rfl⟩) (vW hP hK hD (rX_8 hK hP)) rfl rfl hl.1 rfl (lv_room (Nat.le_of_ble_eq_true rfl)) dX8_readStop_1 ⟨Nat.le_of_ble_eq_true rfl, Nat.le_of_ble_eq_true rfl⟩) hS (fun q _ h => hFc q h) hFc (fun r1 u t H1 locs ht9 hvm hr1 hB hz1 hk1 hS => ?_)
  obtain ⟨n2, hn2, xr1_0, xr1_1, hr1, rfl⟩ := hr1
  have hn2 : 0 ≤ n2.toInt ∧ n2.toInt ≤ 200 := hn2
  obtain ⟨hP, hD⟩ := hB
  rw [ht9] at hP
  generalize H1 = H at hP hS ⊢
  have hP : va_P (dC, dI) classes (WX h g ca (u2 iv 8 5 n2) lv fa la) H := hP
  have hD : va_D A (WX h g ca (u2 iv 8 5 n2) lv fa la) := (show va_D _ (WX h g ca (u2 iv 8 5 n2) lv fa la) from hD).weaken (fun _ _ _ h => hFc _ h)
  have i_8_2 : 0 ≤ (iv 8 2).toInt ∧ (iv 8 2).toInt ≤ 200 := hI.1 8 2
  have xr1_0 : Sk (fun j => ((fa 8 1) j).toInt) ((iv 8 2) : Int32).toInt ((iv 8 5) : Int32).toInt (n2 : Int32).toInt := xr1_0
  have xr1_1 : (((r1 : Int32).toInt = 1 ∧ (n2 : Int32).toInt < ((iv 8 2) : Int32).toInt) ∨ ((r1 : Int32).toInt = 0 ∧ ((iv 8 2) : Int32).toInt ≤ (n2 : Int32).toInt)) := xr1_1
  refine lv_if_eq (tgt := 21) hx hb dX8_readStop_4 (by decide) (fun c3 => ?_) (fun c3 => ?_)
  · have fc3 := z_eq (rfl : (r1).toInt = _) (by decide : (0 : Int32).toInt = 0) c3
    refine lv_aload_n hx hb dX8_readStop_21 rfl (lv_at hl 0 rfl) ?_
    refine lv_iconst (v := 1) hx hb dX8_readStop_22 (by decide) ?_
    refine lv_aload_n hx hb dX8_readStop_23 rfl (lv_at hl 0 rfl) ?_
    refine gX_8_5 hx hb ht hown hK hP m_235 (v := n2) rfl dX8_readStop_24 ?_
    have hFc := free_all hD hS hA
    refine va_calli (va_runV (As := [.int 1, .int n2]) (rest := []) ⟨hx, hb, hml, hown, ht⟩ (c_X8_fail_r l dC dI H.size h g ca (u2 iv 8 5 n2) lv fa la (IX_i (c := 8) (k := 5) hI (show inb (0, 200) n2 from ⟨by omega, by omega⟩)) 1 n2 ⟨by decide, by decide⟩ ⟨by omega, by omega⟩) (kV 2 ht m_757 m_759 m_21 m_82 m_760 rfl rfl hd_X8_fail_v ⟨Nat.le_of_ble_eq_true rfl, Nat.le_of_ble_eq_true rfl⟩) (vW hP hK hD (rX_8 hK hP)) rfl rfl hl.1 rfl (lv_room (Nat.le_of_ble_eq_true rfl)) dX8_readStop_27 ⟨Nat.le_of_ble_eq_true rfl, Nat.le_of_ble_eq_true rfl⟩) hS (fun q _ h => hFc q h) hFc (fun r4 u t H1 locs ht9 hvm hr4 hB hz1 hk1 hS => ?_)
    obtain ⟨n5, n6, hn5, hn6, xr4_0, xr4_1, hr4, rfl⟩ := hr4
    have hn5 : (-1) ≤ n5.toInt ∧ n5.toInt ≤ 200 := hn5
    have hn6 : 0 ≤ n6.toInt ∧ n6.toInt ≤ 5 := hn6
    obtain ⟨hP, hD⟩ := hB
    rw [ht9] at hP
    generalize H1 = H at hP hS ⊢
    have hP : va_P (dC, dI) classes (WX h g ca (u2 (u2 (u2 iv 8 5 n2) 8 3 n5) 8 4 n6) lv fa la) H := hP
    have hD : va_D A (WX h g ca (u2 (u2 (u2 iv 8 5 n2) 8 3 n5) 8 4 n6) lv fa la) := (show va_D _ (WX h g ca (u2 (u2 (u2 iv 8 5 n2) 8 3 n5) 8 4 n6) lv fa la) from hD).weaken (fun _ _ _ h => hFc _ h)
    have : (1 : Int32).toInt = 1 := (by decide)
    have xr4_0 : (n6 : Int32).toInt = (1 : Int32).toInt := xr4_0
    have xr4_1 : (n5 : Int32).toInt = (n2 : Int32).toInt := xr4_1
    have hP9 : va_P (dC, dI) classes (WX h g ca (u2 (u2 (u2 iv 8 3 n5) 8 4 n6) 8 5 n2) lv fa la) H := hP
    have hD9 : va_D A (WX h g ca (u2 (u2 (u2 iv 8 3 n5) 8 4 n6) 8 5 n2) lv fa la) := hD
    exact W.zret (v := r4) hx hb hr (nar01 ⟨by omega, by omega⟩) (fun t ht9 hW => ⟨⟨r4, ((u2 (u2 (u2 iv 8 3 n5) 8 4 n6) 8 5 n2), lv, fa, la), rfl, ⟨n5, n6, n2, (show inb ((-1), 200) n5 from ⟨by omega, by omega⟩), (show inb (0, 5) n6 from ⟨by omega, by omega⟩), (show inb (0, 200) n2 from ⟨by omega, by omega⟩), (show (((r4 : Int32).toInt = 0 ∧ 1 ≤ (n6 : Int32).toInt ∧ StpR (fun j => ((fa 8 1) j).toInt) ((iv 8 2) : Int32).toInt (iv 8 5).toInt (n6 : Int32).toInt (n5 : Int32).toInt 0) ∨ ((r4 : Int32).toInt = 1 ∧ (n6 : Int32).toInt = (iv 8 4).toInt ∧ (n5 : Int32).toInt = (iv 8 3).toInt ∧ StpR (fun j => ((fa 8 1) j).toInt) ((iv 8 2) : Int32).toInt (iv 8 5).toInt 0 0 (n2 : Int32).toInt)) from (by exact Or.inl ⟨by omega, by omega, _, xr1_0, Or.inl ⟨(fun q => by omega), by omega, by omega⟩⟩)), ⟨by omega, by omega⟩, rfl⟩, by rw [ht9]; exact hP9, hD9⟩, hS.F ht9⟩) hS.2.2 dX8_readStop_30
  · have fc3 := z_ne (rfl : (r1).toInt = _) (by decide : (0 : Int32).toInt = 0) c3
    refine lv_aload_n hx hb dX8_readStop_7 rfl (lv_at hl 0 rfl) ?_
    refine gX_8_1 hx hb ht hown hK hP m_229 dX8_readStop_8 ?_
    refine lv_aload_n hx hb dX8_readStop_11 rfl (lv_at hl 0 rfl) ?_
    refine gX_8_5 hx hb ht hown hK hP m_235 (v := n2) rfl dX8_readStop_12 ?_
    have : 0 ≤ (n2 : Int32).toInt ∧ (n2 : Int32).toInt ≤ 199 := ⟨by omega, by omega⟩
    refine lX_8_1 hx hb hK hP (f := (fa 8 1)) rfl (vp_in_iff.mpr ⟨by omega, by omega⟩) dX8_readStop_15 ?_
    refine lv_topi (fun v7 ev7 => ?_)
    refine lv_bipush (v := 59) hx hb dX8_readStop_16 (by decide) ?_
    refine lv_icmp_eq (tgt := 31) hx hb dX8_readStop_18 (by decide) (fun c8 => ?_) (fun c8 => ?_)
    · have fc8 := z_eq (rfl : (v7).toInt = _) (by decide : (59 : Int32).toInt = 59) c8
      refine lv_aload_n hx hb dX8_readStop_31 rfl (lv_at hl 0 rfl) ?_
      refine lv_dup hx hb dX8_readStop_32 rfl ?_
      refine gX_8_5 hx hb ht hown hK hP m_235 (v := n2) rfl dX8_readStop_33 ?_
      refine lv_iconst (v := 1) hx hb dX8_readStop_36 (by decide) ?_
      refine lv_iadd hx hb dX8_readStop_37 ?_
      refine lv_topi (fun v9 ev9 => ?_)
      have tv9 := z_add ev9 (rfl : (n2).toInt = _) (by decide : (1 : Int32).toInt = 1) (by omega) (by omega)
      refine pX_8_5 (v := v9) hx hb ht hown hK hP hD hS m_235 dX8_readStop_38 (fun H locs hP hD hS => ?_)
      have hP : va_P (dC, dI) classes (WX h g ca (u2 iv 8 5 v9) lv fa la) H := hP
      have hD : va_D A (WX h g ca (u2 iv 8 5 v9) lv fa la) := hD
      refine lv_iconst (v := 1) hx hb dX8_readStop_41 (by decide) ?_
      have : (1 : Int32).toInt = 1 := (by decide)
      have i_8_4 : 0 ≤ (iv 8 4).toInt ∧ (iv 8 4).toInt ≤ 5 := hI.1 8 4
      have i_8_3 : (-1) ≤ (iv 8 3).toInt ∧ (iv 8 3).toInt ≤ 200 := hI.1 8 3
      have hP9 : va_P (dC, dI) classes (WX h g ca (u2 (u2 (u2 iv 8 3 (iv 8 3)) 8 4 (iv 8 4)) 8 5 v9) lv fa la) H := hP
      have hD9 : va_D A (WX h g ca (u2 (u2 (u2 iv 8 3 (iv 8 3)) 8 4 (iv 8 4)) 8 5 v9) lv fa la) := hD
      exact W.zret (v := 1) hx hb hr rfl (fun t ht9 hW => ⟨⟨1, ((u2 (u2 (u2 iv 8 3 (iv 8 3)) 8 4 (iv 8 4)) 8 5 v9), lv, fa, la), rfl, ⟨(iv 8 3), (iv 8 4), v9, (hI.1 8 3), (hI.1 8 4), (show inb (0, 200) v9 from ⟨by omega, by omega⟩), (show (((1 : Int32).toInt = 0 ∧ 1 ≤ ((iv 8 4) : Int32).toInt ∧ StpR (fun j => ((fa 8 1) j).toInt) ((iv 8 2) : Int32).toInt (iv 8 5).toInt ((iv 8 4) : Int32).toInt ((iv 8 3) : Int32).toInt 0) ∨ ((1 : Int32).toInt = 1 ∧ ((iv 8 4) : Int32).toInt = (iv 8 4).toInt ∧ ((iv 8 3) : Int32).toInt = (iv 8 3).toInt ∧ StpR (fun j => ((fa 8 1) j).toInt) ((iv 8 2) : Int32).toInt (iv 8 5).toInt 0 0 (v9 : Int32).toInt)) from (by have hv9 := congrArg Int32.toInt (show v7 = (fa 8 1) ((n2 : Int32).toInt).toNat from ev7); exact Or.inr ⟨by omega, by omega, by omega, _, xr1_0, Or.inr ⟨⟨by omega, (show (fa 8 1 ((n2 : Int32).toInt).toNat).toInt = 59 from by omega)⟩, by omega, by omega⟩⟩)), ⟨by decide, by decide⟩, rfl⟩, by rw [ht9]; exact hP9, hD9⟩, hS.F ht9⟩) hS.2.2 dX8_readStop_42
    · have fc8 := z_ne (rfl : (v7).toInt = _) (by decide : (59 : Int32).toInt = 59) c8
      refine lv_aload_n hx hb dX8_readStop_21 rfl (lv_at hl 0 rfl) ?_
      refine lv_iconst (v := 1) hx hb dX8_readStop_22 (by decide) ?_
      refine lv_aload_n hx hb dX8_readStop_23 rfl (lv_at hl 0 rfl) ?_
      refine gX_8_5 hx hb ht hown hK hP m_235 (v := n2) rfl dX8_readStop_24 ?_
      have hFc := free_all hD hS hA
      refine va_calli (va_runV (As := [.int 1, .int n2]) (rest := []) ⟨hx, hb, hml, hown, ht⟩ (c_X8_fail_r l dC dI H.size h g ca (u2 iv 8 5 n2) lv fa la (IX_i (c := 8) (k := 5) hI (show inb (0, 200) n2 from ⟨by omega, by omega⟩)) 1 n2 ⟨by decide, by decide⟩ ⟨by omega, by omega⟩) (kV 2 ht m_757 m_759 m_21 m_82 m_760 rfl rfl hd_X8_fail_v ⟨Nat.le_of_ble_eq_true rfl, Nat.le_of_ble_eq_true rfl⟩) (vW hP hK hD (rX_8 hK hP)) rfl rfl hl.1 rfl (lv_room (Nat.le_of_ble_eq_true rfl)) dX8_readStop_27 ⟨Nat.le_of_ble_eq_true rfl, Nat.le_of_ble_eq_true rfl⟩) hS (fun q _ h => hFc q h) hFc (fun r10 u t H1 locs ht9 hvm hr10 hB hz1 hk1 hS => ?_)
      obtain ⟨n11, n12, hn11, hn12, xr10_0, xr10_1, hr10, rfl⟩ := hr10
      have hn11 : (-1) ≤ n11.toInt ∧ n11.toInt ≤ 200 := hn11
      have hn12 : 0 ≤ n12.toInt ∧ n12.toInt ≤ 5 := hn12
      obtain ⟨hP, hD⟩ := hB
      rw [ht9] at hP
      generalize H1 = H at hP hS ⊢
      have hP : va_P (dC, dI) classes (WX h g ca (u2 (u2 (u2 iv 8 5 n2) 8 3 n11) 8 4 n12) lv fa la) H := hP
      have hD : va_D A (WX h g ca (u2 (u2 (u2 iv 8 5 n2) 8 3 n11) 8 4 n12) lv fa la) := (show va_D _ (WX h g ca (u2 (u2 (u2 iv 8 5 n2) 8 3 n11) 8 4 n12) lv fa la) from hD).weaken (fun _ _ _ h => hFc _ h)
      have : (1 : Int32).toInt = 1 := (by decide)
      have xr10_0 : (n12 : Int32).toInt = (1 : Int32).toInt := xr10_0
      have xr10_1 : (n11 : Int32).toInt = (n2 : Int32).toInt := xr10_1
      have hP9 : va_P (dC, dI) classes (WX h g ca (u2 (u2 (u2 iv 8 3 n11) 8 4 n12) 8 5 n2) lv fa la) H := hP
      have hD9 : va_D A (WX h g ca (u2 (u2 (u2 iv 8 3 n11) 8 4 n12) 8 5 n2) lv fa la) := hD
      exact W.zret (v := r10) hx hb hr (nar01 ⟨by omega, by omega⟩) (fun t ht9 hW => ⟨⟨r10, ((u2 (u2 (u2 iv 8 3 n11) 8 4 n12) 8 5 n2), lv, fa, la), rfl, ⟨n11, n12, n2, (show inb ((-1), 200) n11 from ⟨by omega, by omega⟩), (show inb (0, 5) n12 from ⟨by omega, by omega⟩), (show inb (0, 200) n2 from ⟨by omega, by omega⟩), (show (((r10 : Int32).toInt = 0 ∧ 1 ≤ (n12 : Int32).toInt ∧ StpR (fun j => ((fa 8 1) j).toInt) ((iv 8 2) : Int32).toInt (iv 8 5).toInt (n12 : Int32).toInt (n11 : Int32).toInt 0) ∨ ((r10 : Int32).toInt = 1 ∧ (n12 : Int32).toInt = (iv 8 4).toInt ∧ (n11 : Int32).toInt = (iv 8 3).toInt ∧ StpR (fun j => ((fa 8 1) j).toInt) ((iv 8 2) : Int32).toInt (iv 8 5).toInt 0 0 (n2 : Int32).toInt)) from (by exact Or.inl ⟨by omega, by omega, _, xr1_0, Or.inl ⟨(fun q => by have q2 : (fa 8 1 ((n2 : Int32).toInt).toNat).toInt = 59 := q.2; have hv9 := congrArg Int32.toInt (show v7 = (fa 8 1) ((n2 : Int32).toInt).toNat from ev7); omega), by omega, by omega⟩⟩)), ⟨by omega, by omega⟩, rfl⟩, by rw [ht9]; exact hP9, hD9⟩, hS.F ht9⟩) hS.2.2 dX8_readStop_30
/-! ===== rd4 ===== -/
set_option maxHeartbeats 4000000 in
set_option maxRecDepth 100000 in
/-- X1_startDraft -/
theorem c_X1_startDraft_r (l : Launch) (dC : Nat → ClassId) (dI : Nat → Nat → Nat) (sz : Nat) (h : Nat) (g : Nat → Nat → Nat) (ca : Nat → Nat → ClassId) (iv : Nat → Nat → Int32) (lv : Nat → Nat → Int64) (fa : Nat → Nat → Nat → Int32) (la : Nat → Nat → Nat → Int64) (hI : IX iv fa) : Met l yX1_startDraft (wc yX1_startDraft cX1_startDraft 1 none) ({ frames := 0, cells := 0, slots := 0, locals := 0 } : Room) (pW (dC, dI) classes (WX h g ca iv lv fa la) (TX ca) sz [.ref (g 11 3)]) (va_Qv (fun (u : SS) => ∃ (ni_1_8 : Int32), inb (bI 1 8) ni_1_8 ∧ ((ni_1_8).toInt = 0) ∧ u = ((u2 iv 1 8 ni_1_8), lv, fa, la)) (bX (dC, dI) h g ca (va_A (WX h g ca iv lv fa la) sz)) (va_A (WX h g ca iv lv fa la) sz)) 0 0 (va_A (WX h g ca iv lv fa la) sz) := by
  refine Met.ofW (cc := cX1_startDraft) (maxL := 1) (ret := none) (by decide) rfl ?_
  intro p e s m args below meth c s₁ B hml hv
  obtain ⟨rfl, hsz, hP, hK, hD0⟩ := hv
  have hx := B.exec
  have hb := B.bytes
  have hr := B.returns
  have ht := tb_tl (atoms_spec (ws := wc yX1_startDraft cX1_startDraft 1 none) B.pre)
  have hown : s.vm.findClass RX1 = some m.cls := findClass_of_methodNamed B.named
  have hlocks := B.notSynchronized
  subst hsz
  have hD := hD0.self (sz := s.heap.size)
  generalize hAe : va_A (WX h g ca iv lv fa la) s.heap.size = A at hD ⊢
  have hA : ∀ q : Nat, s.heap.size ≤ q → A q := fun q h => by rw [← hAe]; exact Or.inr h
  have hS : va_S A s.heap s.heap [] := va_S.rf
  have hl := lv_entry [.ref (g 11 3)] (n := 1) (Nat.le_of_ble_eq_true rfl)
  rw [lg_entry_eq]
  generalize (lg_sl [.ref (g 11 3)] ++ List.replicate (1 - (lg_sl [.ref (g 11 3)]).length) Slot.unset).toArray = ls at hl ⊢
  have hl : lv_has ls 1 [(0, .ref (g 11 3))] := hl
  refine lv_aload_n hx hb dX1_startDraft_0 rfl (lv_at hl 0 rfl) ?_
  refine lv_iconst (v := 0) hx hb dX1_startDraft_1 (by decide) ?_
  refine pX_1_8 (v := 0) hx hb ht hown hK hP hD hS m_199 dX1_startDraft_2 (fun H locs hP hD hS => ?_)
  have : (0 : Int32).toInt = 0 := (by decide)
  have hP9 : va_P (dC, dI) classes (WX h g ca (u2 iv 1 8 0) lv fa la) H := hP
  have hD9 : va_D A (WX h g ca (u2 iv 1 8 0) lv fa la) := hD
  exact W.vret hx hb hr (fun t ht9 hW => ⟨⟨((u2 iv 1 8 0), lv, fa, la), rfl, ⟨0, (show inb (0, 12) 0 from ⟨by decide, by decide⟩), (show (0 : Int32).toInt = 0 from by omega), rfl⟩, by rw [ht9]; exact hP9, hD9⟩, hS.F ht9⟩) hS.2.2 dX1_startDraft_5
set_option maxHeartbeats 4000000 in
set_option maxRecDepth 100000 in
/-- X1_draft -/
theorem c_X1_draft_r (l : Launch) (dC : Nat → ClassId) (dI : Nat → Nat → Nat) (sz : Nat) (h : Nat) (g : Nat → Nat → Nat) (ca : Nat → Nat → ClassId) (iv : Nat → Nat → Int32) (lv : Nat → Nat → Int64) (fa : Nat → Nat → Nat → Int32) (la : Nat → Nat → Nat → Int64) (hI : IX iv fa) (a : Int32) (b : Int32) (d : Int32) (q_1_7 : 0 ≤ (iv 1 7).toInt ∧ (iv 1 7).toInt ≤ 7) (q_1_8 : 0 ≤ (iv 1 8).toInt ∧ (iv 1 8).toInt ≤ 11) : Met l yX1_draft (wc yX1_draft cX1_draft 5 none) ({ frames := 0, cells := 0, slots := 0, locals := 0 } : Room) (pW (dC, dI) classes (WX h g ca iv lv fa la) (TX ca) sz [.ref (g 11 3), .int a, .int b, .int d]) (va_Qv (fun (u : SS) => ∃ (na_1_2 : Nat → Int32) (na_1_3 : Nat → Int32) (na_1_4 : Nat → Int32) (ni_1_8 : Int32), inb (bI 1 8) ni_1_8 ∧ ni_1_8.toInt = (iv 1 8).toInt + 1 ∧ (∀ j : Nat, (j : Int) < 12 * (iv 1 7).toInt + (iv 1 8).toInt → na_1_2 j = (fa 1 2) j ∧ na_1_3 j = (fa 1 3) j ∧ na_1_4 j = (fa 1 4) j) ∧ (na_1_2 (12 * ((iv 1 7).toInt).toNat + ((iv 1 8).toInt).toNat) = a) ∧ (na_1_3 (12 * ((iv 1 7).toInt).toNat + ((iv 1 8).toInt).toNat) = b) ∧ (na_1_4 (12 * ((iv 1 7).toInt).toNat + ((iv 1 8).toInt).toNat) = d) ∧ ((ni_1_8).toInt = (iv 1 8).toInt + 1) ∧ u = ((u2 iv 1 8 ni_1_8), lv, (u2 (u2 (u2 fa 1 2 na_1_2) 1 3 na_1_3) 1 4 na_1_4), la)) (bX (dC, dI) h g ca (va_A (WX h g ca iv lv fa la) sz)) (va_A (WX h g ca iv lv fa la) sz)) 0 0 (va_A (WX h g ca iv lv fa la) sz) := by
  refine Met.ofW (cc := cX1_draft) (maxL := 5) (ret := none) (by decide) rfl ?_
  intro p e s m args below meth c s₁ B hml hv
  obtain ⟨rfl, hsz, hP, hK, hD0⟩ := hv
  have hx := B.exec
  have hb := B.bytes
  have hr := B.returns
  have ht := tb_tl (atoms_spec (ws := wc yX1_draft cX1_draft 5 none) B.pre)
  have hown : s.vm.findClass RX1 = some m.cls := findClass_of_methodNamed B.named
  have hlocks := B.notSynchronized
  subst hsz
  have hD := hD0.self (sz := s.heap.size)
  generalize hAe : va_A (WX h g ca iv lv fa la) s.heap.size = A at hD ⊢
  have hA : ∀ q : Nat, s.heap.size ≤ q → A q := fun q h => by rw [← hAe]; exact Or.inr h
  have hS : va_S A s.heap s.heap [] := va_S.rf
  have hl := lv_entry [.ref (g 11 3), .int a, .int b, .int d] (n := 5) (Nat.le_of_ble_eq_true rfl)
  rw [lg_entry_eq]
  generalize (lg_sl [.ref (g 11 3), .int a, .int b, .int d] ++ List.replicate (5 - (lg_sl [.ref (g 11 3), .int a, .int b, .int d]).length) Slot.unset).toArray = ls at hl ⊢
  have hl : lv_has ls 5 [(0, .ref (g 11 3)), (1, .int a), (2, .int b), (3, .int d)] := hl
  refine lv_aload_n hx hb dX1_draft_0 rfl (lv_at hl 0 rfl) ?_
  have i_1_7 : 0 ≤ (iv 1 7).toInt ∧ (iv 1 7).toInt ≤ 8 := hI.1 1 7
  refine gX_1_7 hx hb ht hown hK hP m_196 (v := (iv 1 7)) rfl dX1_draft_1 ?_
  refine lv_bipush (v := 8) hx hb dX1_draft_4 (by decide) ?_
  refine lv_icmp_ge (tgt := 66) hx hb dX1_draft_6 (by decide) (fun c1 => ?_) (fun c1 => ?_)
  · have fc1 := z_le (by decide : (8 : Int32).toInt = 8) (rfl : ((iv 1 7)).toInt = _) c1; exfalso; omega
  · skip
    refine lv_aload_n hx hb dX1_draft_9 rfl (lv_at hl 0 rfl) ?_
    have i_1_8 : 0 ≤ (iv 1 8).toInt ∧ (iv 1 8).toInt ≤ 12 := hI.1 1 8
    refine gX_1_8 hx hb ht hown hK hP m_199 (v := (iv 1 8)) rfl dX1_draft_10 ?_
    refine lv_bipush (v := 12) hx hb dX1_draft_13 (by decide) ?_
    refine lv_icmp_ge (tgt := 66) hx hb dX1_draft_15 (by decide) (fun c2 => ?_) (fun c2 => ?_)
    · have fc2 := z_le (by decide : (12 : Int32).toInt = 12) (rfl : ((iv 1 8)).toInt = _) c2; exfalso; omega
    · skip
      refine lv_aload_n hx hb dX1_draft_18 rfl (lv_at hl 0 rfl) ?_
      refine gX_1_7 hx hb ht hown hK hP m_196 (v := (iv 1 7)) rfl dX1_draft_19 ?_
      refine lv_bipush (v := 12) hx hb dX1_draft_22 (by decide) ?_
      refine lv_imul hx hb dX1_draft_24 ?_
      refine lv_topi (fun v3 ev3 => ?_)
      have tv3 := z_mul ev3 (rfl : ((iv 1 7)).toInt = _) (by decide : (12 : Int32).toInt = 12) (by omega) (by omega)
      refine lv_aload_n hx hb dX1_draft_25 rfl (lv_at hl 0 rfl) ?_
      refine gX_1_8 hx hb ht hown hK hP m_199 (v := (iv 1 8)) rfl dX1_draft_26 ?_
      refine lv_iadd hx hb dX1_draft_29 ?_
      refine lv_topi (fun v4 ev4 => ?_)
      have tv4 := z_add ev4 (rfl : (v3).toInt = _) (rfl : ((iv 1 8)).toInt = _) (by omega) (by omega)
      refine lv_istore (lv' := [(4, .int v4), (0, .ref (g 11 3)), (1, .int a), (2, .int b), (3, .int d)]) hx hb dX1_draft_30 hl (by decide) rfl (fun ls hl => ?_)
      refine lv_aload_n hx hb dX1_draft_32 rfl (lv_at hl 1 rfl) ?_
      refine gX_1_2 hx hb ht hown hK hP m_191 dX1_draft_33 ?_
      refine lv_iload hx hb dX1_draft_36 (lv_at hl 0 rfl) ?_
      refine lv_iload_n hx hb dX1_draft_38 rfl (lv_at hl 2 rfl) ?_
      refine tX_1_2 hx hb hK hP hD hS (f0 := (fa 1 2)) rfl (i := v4) (x := a) (vp_in_iff.mpr ⟨by omega, by omega⟩) dX1_draft_39 (fun f5 ef5 H locs hP hD hS => ?_)
      have hf5 : ∀ j, inb (bA 1 2 j) (f5 j) := fun j => full_i _
      refine lv_aload_n hx hb dX1_draft_40 rfl (lv_at hl 1 rfl) ?_
      refine gX_1_3 hx hb ht hown hK hP m_192 dX1_draft_41 ?_
      refine lv_iload hx hb dX1_draft_44 (lv_at hl 0 rfl) ?_
      refine lv_iload_n hx hb dX1_draft_46 rfl (lv_at hl 3 rfl) ?_
      refine tX_1_3 hx hb hK hP hD hS (f0 := (fa 1 3)) rfl (i := v4) (x := b) (vp_in_iff.mpr ⟨by omega, by omega⟩) dX1_draft_47 (fun f6 ef6 H locs hP hD hS => ?_)
      have hf6 : ∀ j, inb (bA 1 3 j) (f6 j) := fun j => full_i _
      refine lv_aload_n hx hb dX1_draft_48 rfl (lv_at hl 1 rfl) ?_
      refine gX_1_4 hx hb ht hown hK hP m_193 dX1_draft_49 ?_
      refine lv_iload hx hb dX1_draft_52 (lv_at hl 0 rfl) ?_
      refine lv_iload_n hx hb dX1_draft_54 rfl (lv_at hl 4 rfl) ?_
      refine tX_1_4 hx hb hK hP hD hS (f0 := (fa 1 4)) rfl (i := v4) (x := d) (vp_in_iff.mpr ⟨by omega, by omega⟩) dX1_draft_55 (fun f7 ef7 H locs hP hD hS => ?_)
      have hf7 : ∀ j, inb (bA 1 4 j) (f7 j) := fun j => full_i _
      refine lv_aload_n hx hb dX1_draft_56 rfl (lv_at hl 1 rfl) ?_
      refine lv_dup hx hb dX1_draft_57 rfl ?_
      refine gX_1_8 hx hb ht hown hK hP m_199 (v := (iv 1 8)) rfl dX1_draft_58 ?_
      refine lv_iconst (v := 1) hx hb dX1_draft_61 (by decide) ?_
      refine lv_iadd hx hb dX1_draft_62 ?_
      refine lv_topi (fun v8 ev8 => ?_)
      have tv8 := z_add ev8 (rfl : ((iv 1 8)).toInt = _) (by decide : (1 : Int32).toInt = 1) (by omega) (by omega)
      refine pX_1_8 (v := v8) hx hb ht hown hK hP hD hS m_199 dX1_draft_63 (fun H locs hP hD hS => ?_)
      have hP9 : va_P (dC, dI) classes (WX h g ca (u2 iv 1 8 v8) lv (u2 (u2 (u2 fa 1 2 f5) 1 3 f6) 1 4 f7) la) H := hP
      have hD9 : va_D A (WX h g ca (u2 iv 1 8 v8) lv (u2 (u2 (u2 fa 1 2 f5) 1 3 f6) 1 4 f7) la) := hD
      exact W.vret hx hb hr (fun t ht9 hW => ⟨⟨((u2 iv 1 8 v8), lv, (u2 (u2 (u2 fa 1 2 f5) 1 3 f6) 1 4 f7), la), rfl, ⟨f5, f6, f7, v8, (show inb (0, 12) v8 from ⟨by omega, by omega⟩), (by omega), (show ∀ j : Nat, (j : Int) < 12 * (iv 1 7).toInt + (iv 1 8).toInt → f5 j = (fa 1 2) j ∧ f6 j = (fa 1 3) j ∧ f7 j = (fa 1 4) j from fun j hj => ⟨(by rw [ef5, upd_ne (by show j ≠ (v4 : Int32).toInt.toNat; omega)]), (by rw [ef6, upd_ne (by show j ≠ (v4 : Int32).toInt.toNat; omega)]), (by rw [ef7, upd_ne (by show j ≠ (v4 : Int32).toInt.toNat; omega)])⟩), (show f5 (12 * ((iv 1 7).toInt).toNat + ((iv 1 8).toInt).toNat) = a from (by rw [ef5, show (12 * ((iv 1 7).toInt).toNat + ((iv 1 8).toInt).toNat) = (v4 : Int32).toNatClampNeg from (by show _ = (v4 : Int32).toInt.toNat; omega)]; exact upd_eq)), (show f6 (12 * ((iv 1 7).toInt).toNat + ((iv 1 8).toInt).toNat) = b from (by rw [ef6, show (12 * ((iv 1 7).toInt).toNat + ((iv 1 8).toInt).toNat) = (v4 : Int32).toNatClampNeg from (by show _ = (v4 : Int32).toInt.toNat; omega)]; exact upd_eq)), (show f7 (12 * ((iv 1 7).toInt).toNat + ((iv 1 8).toInt).toNat) = d from (by rw [ef7, show (12 * ((iv 1 7).toInt).toNat + ((iv 1 8).toInt).toNat) = (v4 : Int32).toNatClampNeg from (by show _ = (v4 : Int32).toInt.toNat; omega)]; exact upd_eq)), (show (v8 : Int32).toInt = (iv 1 8).toInt + 1 from by omega), rfl⟩, by rw [ht9]; exact hP9, hD9⟩, hS.F ht9⟩) hS.2.2 dX1_draft_66
set_option maxHeartbeats 4000000 in
set_option maxRecDepth 100000 in
/-- X1_draftWord -/
theorem c_X1_draftWord_r (l : Launch) (dC : Nat → ClassId) (dI : Nat → Nat → Nat) (sz : Nat) (h : Nat) (g : Nat → Nat → Nat) (ca : Nat → Nat → ClassId) (iv : Nat → Nat → Int32) (lv : Nat → Nat → Int64) (fa : Nat → Nat → Nat → Int32) (la : Nat → Nat → Nat → Int64) (hI : IX iv fa) (a : Int32) (b : Int32) (q_1_7 : 0 ≤ (iv 1 7).toInt ∧ (iv 1 7).toInt ≤ 7) (q_1_8 : 0 ≤ (iv 1 8).toInt ∧ (iv 1 8).toInt ≤ 11) (h_a : 0 ≤ a.toInt ∧ a.toInt ≤ 200) (h_b : 0 ≤ b.toInt ∧ b.toInt ≤ 200) : Met l yX1_draftWord (wc yX1_draftWord cX1_draftWord 6 none) ({ frames := 0, cells := 0, slots := 0, locals := 0 } : Room) (pW (dC, dI) classes (WX h g ca iv lv fa la) (TX ca) sz [.ref (g 11 3), .ref (g 8 1), .int a, .int b]) (va_Qv (fun (u : SS) => ∃ (na_1_5 : Nat → Int32), (∀ j : Nat, (j : Int) < (8 * (12 * (iv 1 7).toInt + (iv 1 8).toInt)) → na_1_5 j = (fa 1 5) j) ∧ (∀ j : Nat, (j : Int) < 8 → ((j : Int) < b.toInt - a.toInt → na_1_5 ((8 * (12 * ((iv 1 7).toInt).toNat + ((iv 1 8).toInt).toNat)) + j) = vp_nar .byte ((fa 8 1) ((a.toInt).toNat + j))) ∧ (b.toInt - a.toInt ≤ (j : Int) → na_1_5 ((8 * (12 * ((iv 1 7).toInt).toNat + ((iv 1 8).toInt).toNat)) + j) = 0)) ∧ u = (iv, lv, (u2 fa 1 5 na_1_5), la)) (bX (dC, dI) h g ca (va_A (WX h g ca iv lv fa la) sz)) (va_A (WX h g ca iv lv fa la) sz)) 0 0 (va_A (WX h g ca iv lv fa la) sz) := by
  refine Met.ofW (cc := cX1_draftWord) (maxL := 6) (ret := none) (by decide) rfl ?_
  intro p e s m args below meth c s₁ B hml hv
  obtain ⟨rfl, hsz, hP, hK, hD0⟩ := hv
  have hx := B.exec
  have hb := B.bytes
  have hr := B.returns
  have ht := tb_tl (atoms_spec (ws := wc yX1_draftWord cX1_draftWord 6 none) B.pre)
  have hown : s.vm.findClass RX1 = some m.cls := findClass_of_methodNamed B.named
  have hlocks := B.notSynchronized
  subst hsz
  have hD := hD0.self (sz := s.heap.size)
  generalize hAe : va_A (WX h g ca iv lv fa la) s.heap.size = A at hD ⊢
  have hA : ∀ q : Nat, s.heap.size ≤ q → A q := fun q h => by rw [← hAe]; exact Or.inr h
  have hS : va_S A s.heap s.heap [] := va_S.rf
  have hl := lv_entry [.ref (g 11 3), .ref (g 8 1), .int a, .int b] (n := 6) (Nat.le_of_ble_eq_true rfl)
  rw [lg_entry_eq]
  generalize (lg_sl [.ref (g 11 3), .ref (g 8 1), .int a, .int b] ++ List.replicate (6 - (lg_sl [.ref (g 11 3), .ref (g 8 1), .int a, .int b]).length) Slot.unset).toArray = ls at hl ⊢
  have hl : lv_has ls 6 [(0, .ref (g 11 3)), (1, .ref (g 8 1)), (2, .int a), (3, .int b)] := hl
  refine lv_aload_n hx hb dX1_draftWord_0 rfl (lv_at hl 0 rfl) ?_
  have i_1_7 : 0 ≤ (iv 1 7).toInt ∧ (iv 1 7).toInt ≤ 8 := hI.1 1 7
  refine gX_1_7 hx hb ht hown hK hP m_196 (v := (iv 1 7)) rfl dX1_draftWord_1 ?_
  refine lv_bipush (v := 8) hx hb dX1_draftWord_4 (by decide) ?_
  refine lv_icmp_ge (tgt := 79) hx hb dX1_draftWord_6 (by decide) (fun c1 => ?_) (fun c1 => ?_)
  · have fc1 := z_le (by decide : (8 : Int32).toInt = 8) (rfl : ((iv 1 7)).toInt = _) c1; exfalso; omega
  · skip
    refine lv_aload_n hx hb dX1_draftWord_9 rfl (lv_at hl 0 rfl) ?_
    have i_1_8 : 0 ≤ (iv 1 8).toInt ∧ (iv 1 8).toInt ≤ 12 := hI.1 1 8
    refine gX_1_8 hx hb ht hown hK hP m_199 (v := (iv 1 8)) rfl dX1_draftWord_10 ?_
    refine lv_bipush (v := 12) hx hb dX1_draftWord_13 (by decide) ?_
    refine lv_icmp_ge (tgt := 79) hx hb dX1_draftWord_15 (by decide) (fun c2 => ?_) (fun c2 => ?_)
    · have fc2 := z_le (by decide : (12 : Int32).toInt = 12) (rfl : ((iv 1 8)).toInt = _) c2; exfalso; omega
    · skip
      refine lv_aload_n hx hb dX1_draftWord_18 rfl (lv_at hl 0 rfl) ?_
      refine gX_1_7 hx hb ht hown hK hP m_196 (v := (iv 1 7)) rfl dX1_draftWord_19 ?_
      refine lv_bipush (v := 12) hx hb dX1_draftWord_22 (by decide) ?_
      refine lv_imul hx hb dX1_draftWord_24 ?_
      refine lv_topi (fun v3 ev3 => ?_)
      have tv3 := z_mul ev3 (rfl : ((iv 1 7)).toInt = _) (by decide : (12 : Int32).toInt = 12) (by omega) (by omega)
      refine lv_aload_n hx hb dX1_draftWord_25 rfl (lv_at hl 0 rfl) ?_
      refine gX_1_8 hx hb ht hown hK hP m_199 (v := (iv 1 8)) rfl dX1_draftWord_26 ?_
      refine lv_iadd hx hb dX1_draftWord_29 ?_
      refine lv_topi (fun v4 ev4 => ?_)
      have tv4 := z_add ev4 (rfl : (v3).toInt = _) (rfl : ((iv 1 8)).toInt = _) (by omega) (by omega)
      refine lv_bipush (v := 8) hx hb dX1_draftWord_30 (by decide) ?_
      refine lv_imul hx hb dX1_draftWord_32 ?_
      refine lv_topi (fun v5 ev5 => ?_)
      have tv5 := z_mul ev5 (rfl : (v4).toInt = _) (by decide : (8 : Int32).toInt = 8) (by omega) (by omega)
      refine lv_istore (lv' := [(4, .int v5), (0, .ref (g 11 3)), (1, .ref (g 8 1)), (2, .int a), (3, .int b)]) hx hb dX1_draftWord_33 hl (by decide) rfl (fun ls hl => ?_)
      refine lv_iconst (v := 0) hx hb dX1_draftWord_35 (by decide) ?_
      refine lv_istore (lv' := [(5, .int 0), (4, .int v5), (0, .ref (g 11 3)), (1, .ref (g 8 1)), (2, .int a), (3, .int b)]) hx hb dX1_draftWord_36 hl (by decide) rfl (fun ls hl => ?_)
      have lp106 : ∀ (nn106 : Nat) (x105_5 : Int32) (w105_a_1_5 : Nat → Int32), 0 ≤ x105_5.toInt ∧ x105_5.toInt ≤ 8 → (∀ j, inb (bA 1 5 j) (w105_a_1_5 j)) → (∀ j : Nat, (j : Int) < (v5 : Int32).toInt → w105_a_1_5 j = (fa 1 5) j) → (∀ j : Nat, (j : Int) < (x105_5 : Int32).toInt → ((j : Int) < (b).toInt - (a).toInt → w105_a_1_5 (((v5 : Int32).toInt).toNat + j) = vp_nar .byte ((fa 8 1) (((a).toInt).toNat + j))) ∧ ((b).toInt - (a).toInt ≤ (j : Int) → w105_a_1_5 (((v5 : Int32).toInt).toNat + j) = 0)) → 8 - x105_5.toInt < (nn106 : Int) → ∀ (H : Heap) (locs : List Loc), ∀ (ls : Array Slot), va_P (dC, dI) classes (WX h g ca iv lv (u2 fa 1 5 w105_a_1_5) la) H → va_D A (WX h g ca iv lv (u2 fa 1 5 w105_a_1_5) la) → va_S A s.heap H locs → lv_has ls 6 [(5, .int x105_5), (4, .int v5), (0, .ref (g 11 3)), (1, .ref (g 8 1)), (2, .int a), (3, .int b)] → W p l e ({ frames := 0, cells := 0, slots := 0, locals := 0 } : Room) s m ([.ref (g 11 3), .ref (g 8 1), .int a, .int b] : List Value).toArray below meth c H locs 0 0 (MQ below (va_Qv (fun (u : SS) => ∃ (na_1_5 : Nat → Int32), (∀ j : Nat, (j : Int) < (8 * (12 * (iv 1 7).toInt + (iv 1 8).toInt)) → na_1_5 j = (fa 1 5) j) ∧ (∀ j : Nat, (j : Int) < 8 → ((j : Int) < b.toInt - a.toInt → na_1_5 ((8 * (12 * ((iv 1 7).toInt).toNat + ((iv 1 8).toInt).toNat)) + j) = vp_nar .byte ((fa 8 1) ((a.toInt).toNat + j))) ∧ (b.toInt - a.toInt ≤ (j : Int) → na_1_5 ((8 * (12 * ((iv 1 7).toInt).toNat + ((iv 1 8).toInt).toNat)) + j) = 0)) ∧ u = (iv, lv, (u2 fa 1 5 na_1_5), la)) (bX (dC, dI) h g ca A) A) ([.ref (g 11 3), .ref (g 8 1), .int a, .int b] : List Value).toArray s 0 0 A) (F0 m 38 ls []) := by
        intro nn106
        induction nn106 with
        | zero => intro x105_5 w105_a_1_5 hx105_5 hw105_a_1_5 hq106_0 hq106_1 hm106; exfalso; omega
        | succ nn106 ih106 =>
          intro x105_5 w105_a_1_5 hx105_5 hw105_a_1_5 hq106_0 hq106_1 hm106 H locs ls hP hD hS hl
          refine lv_iload hx hb dX1_draftWord_38 (lv_at hl 0 rfl) ?_
          refine lv_bipush (v := 8) hx hb dX1_draftWord_40 (by decide) ?_
          refine lv_icmp_ge (tgt := 79) hx hb dX1_draftWord_42 (by decide) (fun c107 => ?_) (fun c107 => ?_)
          · have fc107 := z_le (by decide : (8 : Int32).toInt = 8) (rfl : (x105_5).toInt = _) c107
            have hP9 : va_P (dC, dI) classes (WX h g ca iv lv (u2 fa 1 5 w105_a_1_5) la) H := hP
            have hD9 : va_D A (WX h g ca iv lv (u2 fa 1 5 w105_a_1_5) la) := hD
            exact W.vret hx hb hr (fun t ht9 hW => ⟨⟨(iv, lv, (u2 fa 1 5 w105_a_1_5), la), rfl, ⟨w105_a_1_5, (show ∀ j : Nat, (j : Int) < (8 * (12 * (iv 1 7).toInt + (iv 1 8).toInt)) → w105_a_1_5 j = (fa 1 5) j from (fun j hj => hq106_0 j (by omega))), (show ∀ j : Nat, (j : Int) < 8 → ((j : Int) < (b).toInt - (a).toInt → w105_a_1_5 ((8 * (12 * ((iv 1 7).toInt).toNat + ((iv 1 8).toInt).toNat)) + j) = vp_nar .byte ((fa 8 1) (((a).toInt).toNat + j))) ∧ ((b).toInt - (a).toInt ≤ (j : Int) → w105_a_1_5 ((8 * (12 * ((iv 1 7).toInt).toNat + ((iv 1 8).toInt).toNat)) + j) = 0) from (by have he9 : ((v5 : Int32).toInt).toNat = 8 * (12 * ((iv 1 7).toInt).toNat + ((iv 1 8).toInt).toNat) := (by omega); have hq9 := hq106_1; rw [he9] at hq9; exact fun j hj => hq9 j (by omega))), rfl⟩, by rw [ht9]; exact hP9, hD9⟩, hS.F ht9⟩) hS.2.2 dX1_draftWord_79
          · have fc107 := z_nle (by decide : (8 : Int32).toInt = 8) (rfl : (x105_5).toInt = _) c107
            refine lv_aload_n hx hb dX1_draftWord_45 rfl (lv_at hl 2 rfl) ?_
            refine gX_1_5 hx hb ht hown hK hP m_194 dX1_draftWord_46 ?_
            refine lv_iload hx hb dX1_draftWord_49 (lv_at hl 1 rfl) ?_
            refine lv_iload hx hb dX1_draftWord_51 (lv_at hl 0 rfl) ?_
            refine lv_iadd hx hb dX1_draftWord_53 ?_
            refine lv_topi (fun v108 ev108 => ?_)
            have tv108 := z_add ev108 (rfl : (v5).toInt = _) (rfl : (x105_5).toInt = _) (by omega) (by omega)
            refine lv_iload_n hx hb dX1_draftWord_54 rfl (lv_at hl 4 rfl) ?_
            refine lv_iload hx hb dX1_draftWord_55 (lv_at hl 0 rfl) ?_
            refine lv_iadd hx hb dX1_draftWord_57 ?_
            refine lv_topi (fun v109 ev109 => ?_)
            have tv109 := z_add ev109 (rfl : (a).toInt = _) (rfl : (x105_5).toInt = _) (by omega) (by omega)
            refine lv_iload_n hx hb dX1_draftWord_58 rfl (lv_at hl 5 rfl) ?_
            refine lv_icmp_ge (tgt := 71) hx hb dX1_draftWord_59 (by decide) (fun c110 => ?_) (fun c110 => ?_)
            · have fc110 := z_le (rfl : (b).toInt = _) (rfl : (v109).toInt = _) c110
              refine lv_iconst (v := 0) hx hb dX1_draftWord_71 (by decide) ?_
              refine tX_1_5 hx hb hK hP hD hS (f0 := w105_a_1_5) rfl (i := v108) (x := 0) (vp_in_iff.mpr ⟨by omega, by omega⟩) dX1_draftWord_72 (fun f111 ef111 H locs hP hD hS => ?_)
              have hf111 : ∀ j, inb (bA 1 5 j) (f111 j) := fun j => full_i _
              have hP : va_P (dC, dI) classes (WX h g ca iv lv (u2 fa 1 5 f111) la) H := hP
              have hD : va_D A (WX h g ca iv lv (u2 fa 1 5 f111) la) := hD
              obtain ⟨v112, ev112⟩ : ∃ y : Int32, y = x105_5 + 1 := ⟨_, rfl⟩
              have tv112 := z_add ev112 rfl (by decide : (1 : Int32).toInt = 1) (by omega) (by omega)
              refine lv_iinc (v := v112) (lv' := [(5, .int v112), (4, .int v5), (0, .ref (g 11 3)), (1, .ref (g 8 1)), (2, .int a), (3, .int b)]) hx hb dX1_draftWord_73 hl (k := 0) rfl (by rw [ev112]; rfl) (by decide) rfl (fun ls hl => ?_)
              refine lv_goto (tgt := 38) hx hb dX1_draftWord_76 (by decide) ?_
              exact ih106 v112 f111 ⟨by omega, by omega⟩ hf111 (show ∀ j : Nat, (j : Int) < (v5 : Int32).toInt → f111 j = (fa 1 5) j from fun j hj => by rw [ef111, upd_ne (by show j ≠ (v108 : Int32).toInt.toNat; omega)]; exact hq106_0 j hj) (show ∀ j : Nat, (j : Int) < (v112 : Int32).toInt → ((j : Int) < (b).toInt - (a).toInt → f111 (((v5 : Int32).toInt).toNat + j) = vp_nar .byte ((fa 8 1) (((a).toInt).toNat + j))) ∧ ((b).toInt - (a).toInt ≤ (j : Int) → f111 (((v5 : Int32).toInt).toNat + j) = 0) from (fun j hj => by
                    by_cases hj2 : (j : Int) < (x105_5 : Int32).toInt
                    · rw [ef111, upd_ne (by show _ ≠ (v108 : Int32).toInt.toNat; omega)]; exact hq106_1 j hj2
                    · have hj3 : j = ((x105_5 : Int32).toInt).toNat := by omega
                      have hj4 : ((v5 : Int32).toInt).toNat + j = (v108 : Int32).toNatClampNeg := by show _ = (v108 : Int32).toInt.toNat; omega
                      rw [hj4, ef111, upd_eq]
                      exact ⟨fun h9 => absurd h9 (by omega), fun _ => (by decide)⟩)) (by omega) _ _ ls hP hD hS (lv_sub hl [0, 1, 2, 3, 4, 5] rfl)
            · have fc110 := z_nle (rfl : (b).toInt = _) (rfl : (v109).toInt = _) c110
              refine lv_aload_n hx hb dX1_draftWord_62 rfl (lv_at hl 3 rfl) ?_
              refine lv_iload_n hx hb dX1_draftWord_63 rfl (lv_at hl 4 rfl) ?_
              refine lv_iload hx hb dX1_draftWord_64 (lv_at hl 0 rfl) ?_
              refine lv_iadd hx hb dX1_draftWord_66 ?_
              refine lv_topi (fun v113 ev113 => ?_)
              obtain rfl : v109 = v113 := ev109.trans ev113.symm
              refine lX_8_1 hx hb hK hP (f := (fa 8 1)) rfl (vp_in_iff.mpr ⟨by omega, by omega⟩) dX1_draftWord_67 ?_
              refine lv_topi (fun v114 ev114 => ?_)
              refine lv_goto (tgt := 72) hx hb dX1_draftWord_68 (by decide) ?_
              refine tX_1_5 hx hb hK hP hD hS (f0 := w105_a_1_5) rfl (i := v108) (x := v114) (vp_in_iff.mpr ⟨by omega, by omega⟩) dX1_draftWord_72 (fun f115 ef115 H locs hP hD hS => ?_)
              have hf115 : ∀ j, inb (bA 1 5 j) (f115 j) := fun j => full_i _
              have hP : va_P (dC, dI) classes (WX h g ca iv lv (u2 fa 1 5 f115) la) H := hP
              have hD : va_D A (WX h g ca iv lv (u2 fa 1 5 f115) la) := hD
              obtain ⟨v116, ev116⟩ : ∃ y : Int32, y = x105_5 + 1 := ⟨_, rfl⟩
              have tv116 := z_add ev116 rfl (by decide : (1 : Int32).toInt = 1) (by omega) (by omega)
              refine lv_iinc (v := v116) (lv' := [(5, .int v116), (4, .int v5), (0, .ref (g 11 3)), (1, .ref (g 8 1)), (2, .int a), (3, .int b)]) hx hb dX1_draftWord_73 hl (k := 0) rfl (by rw [ev116]; rfl) (by decide) rfl (fun ls hl => ?_)
              refine lv_goto (tgt := 38) hx hb dX1_draftWord_76 (by decide) ?_
              exact ih106 v116 f115 ⟨by omega, by omega⟩ hf115 (show ∀ j : Nat, (j : Int) < (v5 : Int32).toInt → f115 j = (fa 1 5) j from fun j hj => by rw [ef115, upd_ne (by show j ≠ (v108 : Int32).toInt.toNat; omega)]; exact hq106_0 j hj) (show ∀ j : Nat, (j : Int) < (v116 : Int32).toInt → ((j : Int) < (b).toInt - (a).toInt → f115 (((v5 : Int32).toInt).toNat + j) = vp_nar .byte ((fa 8 1) (((a).toInt).toNat + j))) ∧ ((b).toInt - (a).toInt ≤ (j : Int) → f115 (((v5 : Int32).toInt).toNat + j) = 0) from (fun j hj => by
                    by_cases hj2 : (j : Int) < (x105_5 : Int32).toInt
                    · rw [ef115, upd_ne (by show _ ≠ (v108 : Int32).toInt.toNat; omega)]; exact hq106_1 j hj2
                    · have hj3 : j = ((x105_5 : Int32).toInt).toNat := by omega
                      have hj4 : ((v5 : Int32).toInt).toNat + j = (v108 : Int32).toNatClampNeg := by show _ = (v108 : Int32).toInt.toNat; omega
                      rw [hj4, ef115, upd_eq]
                      exact ⟨fun _ => (by rw [ev114]; exact congrArg (fun q => vp_nar .byte (fa 8 1 q)) (by show (v109 : Int32).toInt.toNat = _; omega)), fun h9 => absurd h9 (by omega)⟩)) (by omega) _ _ ls hP hD hS (lv_sub hl [0, 1, 2, 3, 4, 5] rfl)
      have : (0 : Int32).toInt = 0 := (by decide)
      exact lp106 9 0 (fa 1 5) ⟨by decide, by decide⟩ (hI.2 1 5) (show ∀ j : Nat, (j : Int) < (v5 : Int32).toInt → (fa 1 5) j = (fa 1 5) j from fun j hj => rfl) (show ∀ j : Nat, (j : Int) < (0 : Int32).toInt → ((j : Int) < (b).toInt - (a).toInt → (fa 1 5) (((v5 : Int32).toInt).toNat + j) = vp_nar .byte ((fa 8 1) (((a).toInt).toNat + j))) ∧ ((b).toInt - (a).toInt ≤ (j : Int) → (fa 1 5) (((v5 : Int32).toInt).toNat + j) = 0) from fun j hj => absurd hj (by omega)) (by first | decide | omega) _ _ ls hP hD hS (lv_sub hl [0, 1, 2, 3, 4, 5] rfl)
set_option maxHeartbeats 4000000 in
set_option maxRecDepth 100000 in
/-- X8_readWord -/
theorem c_X8_readWord_r (l : Launch) (dC : Nat → ClassId) (dI : Nat → Nat → Nat) (sz : Nat) (h : Nat) (g : Nat → Nat → Nat) (ca : Nat → Nat → ClassId) (iv : Nat → Nat → Int32) (lv : Nat → Nat → Int64) (fa : Nat → Nat → Nat → Int32) (la : Nat → Nat → Nat → Int64) (hI : IX iv fa) (q_1_7 : 0 ≤ (iv 1 7).toInt ∧ (iv 1 7).toInt ≤ 7) (q_1_8 : 0 ≤ (iv 1 8).toInt ∧ (iv 1 8).toInt ≤ 11) : Met l yX8_readWord (wc yX8_readWord cX8_readWord 2 (some .boolean)) ({ frames := 1, cells := 0, slots := 0, locals := 25 } : Room) (pW (dC, dI) classes (WX h g ca iv lv fa la) (TX ca) sz [.ref (g 11 4)]) (va_Qi (fun r (u : SS) => ∃ (na_1_5 : Nat → Int32) (ni_8_3 : Int32) (ni_8_4 : Int32) (ni_8_5 : Int32), inb (bI 8 3) ni_8_3 ∧ inb (bI 8 4) ni_8_4 ∧ inb (bI 8 5) ni_8_5 ∧ (∃ s e : Int, Sk (fun j => ((fa 8 1) j).toInt) (iv 8 2).toInt (iv 8 5).toInt s ∧ Rn (fun j => ((fa 8 1) j).toInt) (iv 8 2).toInt 97 122 s e ∧ ((r.toInt = 0 ∧ e = s ∧ (ni_8_4).toInt = 1 ∧ (ni_8_3).toInt = s) ∨ (r.toInt = 0 ∧ 8 < e - s ∧ (ni_8_4).toInt = 4 ∧ (ni_8_3).toInt = s) ∨ (r.toInt = 1 ∧ (ni_8_4).toInt = (iv 8 4).toInt ∧ (ni_8_3).toInt = (iv 8 3).toInt ∧ (ni_8_5).toInt = e ∧ (s < e ∧ e - s ≤ 8) ∧ ∀ j : Nat, j < 8 → ((j : Int) < e - s → (na_1_5 ((8 * (12 * ((iv 1 7).toInt).toNat + ((iv 1 8).toInt).toNat)) + j)).toInt = ((fa 8 1) (s.toNat + j)).toInt) ∧ (e - s ≤ (j : Int) → (na_1_5 ((8 * (12 * ((iv 1 7).toInt).toNat + ((iv 1 8).toInt).toNat)) + j)).toInt = 0)))) ∧ (∀ j : Nat, (j : Int) < (8 * (12 * (iv 1 7).toInt + (iv 1 8).toInt)) → na_1_5 j = (fa 1 5) j) ∧ (0 ≤ r.toInt ∧ r.toInt ≤ 1) ∧ u = ((u2 (u2 (u2 iv 8 3 ni_8_3) 8 4 ni_8_4) 8 5 ni_8_5), lv, (u2 fa 1 5 na_1_5), la)) (bX (dC, dI) h g ca (va_A (WX h g ca iv lv fa la) sz)) (va_A (WX h g ca iv lv fa la) sz)) 0 0 (va_A (WX h g ca iv lv fa la) sz) := by
  refine Met.ofW (cc := cX8_readWord) (maxL := 2) (ret := (some .boolean)) (by decide) rfl ?_
  intro p e s m args below meth c s₁ B hml hv
  obtain ⟨rfl, hsz, hP, hK, hD0⟩ := hv
  have hx := B.exec
  have hb := B.bytes
  have hr := B.returns
  have ht := tb_tl (atoms_spec (ws := wc yX8_readWord cX8_readWord 2 (some .boolean)) B.pre)
  have hown : s.vm.findClass RX8 = some m.cls := findClass_of_methodNamed B.named
  have hlocks := B.notSynchronized
  subst hsz
  have hD := hD0.self (sz := s.heap.size)
  generalize hAe : va_A (WX h g ca iv lv fa la) s.heap.size = A at hD ⊢
  have hA : ∀ q : Nat, s.heap.size ≤ q → A q := fun q h => by rw [← hAe]; exact Or.inr h
  have hS : va_S A s.heap s.heap [] := va_S.rf
  have hl := lv_entry [.ref (g 11 4)] (n := 2) (Nat.le_of_ble_eq_true rfl)
  rw [lg_entry_eq]
  generalize (lg_sl [.ref (g 11 4)] ++ List.replicate (2 - (lg_sl [.ref (g 11 4)]).length) Slot.unset).toArray = ls at hl ⊢
  have hl : lv_has ls 2 [(0, .ref (g 11 4))] := hl
  refine lv_aload_n hx hb dX8_readWord_0 rfl (lv_at hl 0 rfl) ?_
  have i_8_5 : 0 ≤ (iv 8 5).toInt ∧ (iv 8 5).toInt ≤ 200 := hI.1 8 5
  have hFc := free_all hD hS hA
  refine va_calli (va_runV (As := []) (rest := []) ⟨hx, hb, hml, hown, ht⟩ (c_X8_skipBlanks_r l dC dI s.heap.size h g ca iv lv fa la hI) (kV 0 ht m_688 m_690 m_16 m_82 m_691 rfl rfl hd_X8_skipBlanks_v ⟨Nat.le_of_ble_eq_true rfl, Nat.le_of_ble_eq_true rfl⟩) (vW hP hK hD (rX_8 hK hP)) rfl rfl hl.1 rfl (lv_room (Nat.le_of_ble_eq_true rfl)) dX8_readWord_1 ⟨Nat.le_of_ble_eq_true rfl, Nat.le_of_ble_eq_true rfl⟩) hS (fun q _ h => hFc q h) hFc (fun r1 u t H1 locs ht9 hvm hr1 hB hz1 hk1 hS => ?_)
  obtain ⟨n2, hn2, xr1_0, xr1_1, hr1, rfl⟩ := hr1
  have hn2 : 0 ≤ n2.toInt ∧ n2.toInt ≤ 200 := hn2
  obtain ⟨hP, hD⟩ := hB
  rw [ht9] at hP
  generalize H1 = H at hP hS ⊢
  have hP : va_P (dC, dI) classes (WX h g ca (u2 iv 8 5 n2) lv fa la) H := hP
  have hD : va_D A (WX h g ca (u2 iv 8 5 n2) lv fa la) := (show va_D _ (WX h g ca (u2 iv 8 5 n2) lv fa la) from hD).weaken (fun _ _ _ h => hFc _ h)
  have i_8_2 : 0 ≤ (iv 8 2).toInt ∧ (iv 8 2).toInt ≤ 200 := hI.1 8 2
  have xr1_0 : Sk (fun j => ((fa 8 1) j).toInt) ((iv 8 2) : Int32).toInt ((iv 8 5) : Int32).toInt (n2 : Int32).toInt := xr1_0
  have xr1_1 : (((r1 : Int32).toInt = 1 ∧ (n2 : Int32).toInt < ((iv 8 2) : Int32).toInt) ∨ ((r1 : Int32).toInt = 0 ∧ ((iv 8 2) : Int32).toInt ≤ (n2 : Int32).toInt)) := xr1_1
  refine lv_pop hx hb dX8_readWord_4 rfl ?_
  refine lv_aload_n hx hb dX8_readWord_5 rfl (lv_at hl 0 rfl) ?_
  refine lv_bipush (v := 97) hx hb dX8_readWord_6 (by decide) ?_
  refine lv_bipush (v := 122) hx hb dX8_readWord_8 (by decide) ?_
  refine vp_callSi (W.runV (As := [.int 97, .int 122]) (rest := []) ⟨hx, hb, hml, hown, ht⟩ (c_X8_endOfRun_r97 l dC dI h g ca (u2 iv 8 5 n2) lv fa la (IX_i (c := 8) (k := 5) hI (show inb (0, 200) n2 from ⟨by omega, by omega⟩))) (kV 2 ht m_701 m_703 m_19 m_82 m_704 rfl rfl hd_X8_endOfRun_v ⟨Nat.le_of_ble_eq_true rfl, Nat.le_of_ble_eq_true rfl⟩) (vR hP hK (rX_8 hK hP)) rfl rfl hl.1 rfl (lv_room (Nat.le_of_ble_eq_true rfl)) dX8_readWord_10 ⟨Nat.le_of_ble_eq_true rfl, Nat.le_of_ble_eq_true rfl⟩) (fun r3 hr3 => ?_)
  obtain ⟨hr3, xr3_0, xr3_1⟩ := hr3
  have xr3_0 : Rn (fun j => ((fa 8 1) j).toInt) ((iv 8 2) : Int32).toInt 97 122 (n2 : Int32).toInt (r3 : Int32).toInt := xr3_0
  have xr3_1 : (n2 : Int32).toInt ≤ (r3 : Int32).toInt := xr3_1
  refine lv_istore_n (lv' := [(1, .int r3), (0, .ref (g 11 4))]) hx hb dX8_readWord_13 rfl hl (by decide) rfl (fun ls hl => ?_)
  refine lv_iload_n hx hb dX8_readWord_14 rfl (lv_at hl 0 rfl) ?_
  refine lv_aload_n hx hb dX8_readWord_15 rfl (lv_at hl 1 rfl) ?_
  refine gX_8_5 hx hb ht hown hK hP m_235 (v := n2) rfl dX8_readWord_16 ?_
  refine lv_icmp_ne (tgt := 32) hx hb dX8_readWord_19 (by decide) (fun c4 => ?_) (fun c4 => ?_)
  · have fc4 := z_ne (rfl : (r3).toInt = _) (rfl : (n2).toInt = _) c4
    refine lv_iload_n hx hb dX8_readWord_32 rfl (lv_at hl 0 rfl) ?_
    refine lv_aload_n hx hb dX8_readWord_33 rfl (lv_at hl 1 rfl) ?_
    refine gX_8_5 hx hb ht hown hK hP m_235 (v := n2) rfl dX8_readWord_34 ?_
    refine lv_isub hx hb dX8_readWord_37 ?_
    refine lv_topi (fun v5 ev5 => ?_)
    have tv5 := z_sub ev5 (rfl : (r3).toInt = _) (rfl : (n2).toInt = _) (by omega) (by omega)
    refine lv_bipush (v := 8) hx hb dX8_readWord_38 (by decide) ?_
    refine lv_icmp_le (tgt := 53) hx hb dX8_readWord_40 (by decide) (fun c6 => ?_) (fun c6 => ?_)
    · have fc6 := z_le (rfl : (v5).toInt = _) (by decide : (8 : Int32).toInt = 8) c6
      refine lv_aload_n hx hb dX8_readWord_53 rfl (lv_at hl 1 rfl) ?_
      refine gX_8_0 hx hb ht hown hK hP m_228 dX8_readWord_54 ?_
      refine lv_aload_n hx hb dX8_readWord_57 rfl (lv_at hl 1 rfl) ?_
      refine gX_8_1 hx hb ht hown hK hP m_229 dX8_readWord_58 ?_
      refine lv_aload_n hx hb dX8_readWord_61 rfl (lv_at hl 1 rfl) ?_
      refine gX_8_5 hx hb ht hown hK hP m_235 (v := n2) rfl dX8_readWord_62 ?_
      refine lv_iload_n hx hb dX8_readWord_65 rfl (lv_at hl 0 rfl) ?_
      have i_1_7 : 0 ≤ (iv 1 7).toInt ∧ (iv 1 7).toInt ≤ 8 := hI.1 1 7
      have i_1_8 : 0 ≤ (iv 1 8).toInt ∧ (iv 1 8).toInt ≤ 12 := hI.1 1 8
      have hFc := free_all hD hS hA
      refine va_callv (va_runV (As := [.ref (g 8 1), .int n2, .int r3]) (rest := []) ⟨hx, hb, hml, hown, ht⟩ (c_X1_draftWord_r l dC dI H.size h g ca (u2 iv 8 5 n2) lv fa la (IX_i (c := 8) (k := 5) hI (show inb (0, 200) n2 from ⟨by omega, by omega⟩)) n2 r3 (show 0 ≤ ((iv 1 7) : Int32).toInt ∧ ((iv 1 7) : Int32).toInt ≤ 7 from ⟨by omega, by omega⟩) (show 0 ≤ ((iv 1 8) : Int32).toInt ∧ ((iv 1 8) : Int32).toInt ≤ 11 from ⟨by omega, by omega⟩) ⟨by omega, by omega⟩ ⟨by omega, by omega⟩) (kV 3 ht m_796 m_797 m_798 m_81 m_799 rfl rfl hd_X1_draftWord_v ⟨Nat.le_of_ble_eq_true rfl, Nat.le_of_ble_eq_true rfl⟩) (vW hP hK hD (rX_1 hK hP)) rfl rfl hl.1 rfl (lv_room (Nat.le_of_ble_eq_true rfl)) dX8_readWord_66 ⟨Nat.le_of_ble_eq_true rfl, Nat.le_of_ble_eq_true rfl⟩) hS (fun q _ h => hFc q h) hFc (fun u t H1 locs ht9 hvm hr7 hB hz1 hk1 hS => ?_)
      obtain ⟨n8, xr7_0, xr7_1, rfl⟩ := hr7
      have hn8 : ∀ j, inb (bA 1 5 j) (n8 j) := fun j => full_i _
      obtain ⟨hP, hD⟩ := hB
      rw [ht9] at hP
      generalize H1 = H at hP hS ⊢
      have hP : va_P (dC, dI) classes (WX h g ca (u2 iv 8 5 n2) lv (u2 fa 1 5 n8) la) H := hP
      have hD : va_D A (WX h g ca (u2 iv 8 5 n2) lv (u2 fa 1 5 n8) la) := (show va_D _ (WX h g ca (u2 iv 8 5 n2) lv (u2 fa 1 5 n8) la) from hD).weaken (fun _ _ _ h => hFc _ h)
      have xr7_0 : ∀ j : Nat, (j : Int) < (8 * (12 * ((iv 1 7) : Int32).toInt + ((iv 1 8) : Int32).toInt)) → n8 j = (fa 1 5) j := xr7_0
      have xr7_1 : ∀ j : Nat, (j : Int) < 8 → ((j : Int) < (r3 : Int32).toInt - (n2 : Int32).toInt → n8 ((8 * (12 * (((iv 1 7) : Int32).toInt).toNat + (((iv 1 8) : Int32).toInt).toNat)) + j) = vp_nar .byte ((fa 8 1) (((n2 : Int32).toInt).toNat + j))) ∧ ((r3 : Int32).toInt - (n2 : Int32).toInt ≤ (j : Int) → n8 ((8 * (12 * (((iv 1 7) : Int32).toInt).toNat + (((iv 1 8) : Int32).toInt).toNat)) + j) = 0) := xr7_1
      refine lv_aload_n hx hb dX8_readWord_69 rfl (lv_at hl 1 rfl) ?_
      refine lv_iload_n hx hb dX8_readWord_70 rfl (lv_at hl 0 rfl) ?_
      refine pX_8_5 (v := r3) hx hb ht hown hK hP hD hS m_235 dX8_readWord_71 (fun H locs hP hD hS => ?_)
      have hP : va_P (dC, dI) classes (WX h g ca (u2 iv 8 5 r3) lv (u2 fa 1 5 n8) la) H := hP
      have hD : va_D A (WX h g ca (u2 iv 8 5 r3) lv (u2 fa 1 5 n8) la) := hD
      refine lv_iconst (v := 1) hx hb dX8_readWord_74 (by decide) ?_
      have : (1 : Int32).toInt = 1 := (by decide)
      have i_8_4 : 0 ≤ (iv 8 4).toInt ∧ (iv 8 4).toInt ≤ 5 := hI.1 8 4
      have i_8_3 : (-1) ≤ (iv 8 3).toInt ∧ (iv 8 3).toInt ≤ 200 := hI.1 8 3
      have hP9 : va_P (dC, dI) classes (WX h g ca (u2 (u2 (u2 iv 8 3 (iv 8 3)) 8 4 (iv 8 4)) 8 5 r3) lv (u2 fa 1 5 n8) la) H := hP
      have hD9 : va_D A (WX h g ca (u2 (u2 (u2 iv 8 3 (iv 8 3)) 8 4 (iv 8 4)) 8 5 r3) lv (u2 fa 1 5 n8) la) := hD
      exact W.zret (v := 1) hx hb hr rfl (fun t ht9 hW => ⟨⟨1, ((u2 (u2 (u2 iv 8 3 (iv 8 3)) 8 4 (iv 8 4)) 8 5 r3), lv, (u2 fa 1 5 n8), la), rfl, ⟨n8, (iv 8 3), (iv 8 4), r3, (hI.1 8 3), (hI.1 8 4), (show inb (0, 200) r3 from ⟨by omega, by omega⟩), (show ∃ s e : Int, Sk (fun j => ((fa 8 1) j).toInt) ((iv 8 2) : Int32).toInt (iv 8 5).toInt s ∧ Rn (fun j => ((fa 8 1) j).toInt) ((iv 8 2) : Int32).toInt 97 122 s e ∧ (((1 : Int32).toInt = 0 ∧ e = s ∧ ((iv 8 4) : Int32).toInt = 1 ∧ ((iv 8 3) : Int32).toInt = s) ∨ ((1 : Int32).toInt = 0 ∧ 8 < e - s ∧ ((iv 8 4) : Int32).toInt = 4 ∧ ((iv 8 3) : Int32).toInt = s) ∨ ((1 : Int32).toInt = 1 ∧ ((iv 8 4) : Int32).toInt = (iv 8 4).toInt ∧ ((iv 8 3) : Int32).toInt = (iv 8 3).toInt ∧ (r3 : Int32).toInt = e ∧ (s < e ∧ e - s ≤ 8) ∧ ∀ j : Nat, j < 8 → ((j : Int) < e - s → (n8 ((8 * (12 * ((iv 1 7).toInt).toNat + ((iv 1 8).toInt).toNat)) + j)).toInt = ((fa 8 1) (s.toNat + j)).toInt) ∧ (e - s ≤ (j : Int) → (n8 ((8 * (12 * ((iv 1 7).toInt).toNat + ((iv 1 8).toInt).toNat)) + j)).toInt = 0))) from (by exact ⟨_, _, xr1_0, xr3_0, Or.inr (Or.inr ⟨by omega, by omega, by omega, by omega, ⟨by omega, by omega⟩, (fun j hj => ⟨fun h9 => (by rw [(xr7_1 j (by omega)).1 h9, nar_byte_id]; have hr9 : 97 ≤ (fa 8 1 ((n2 : Int32).toInt.toNat + j)).toInt ∧ (fa 8 1 ((n2 : Int32).toInt.toNat + j)).toInt ≤ 122 := (xr3_0.2.1 ((n2 : Int32).toInt.toNat + j) (by omega) (by omega)).2; exact ⟨by omega, by omega⟩), fun h9 => (by rw [(xr7_1 j (by omega)).2 h9]; decide)⟩)⟩)⟩)), (show ∀ j : Nat, (j : Int) < (8 * (12 * (iv 1 7).toInt + (iv 1 8).toInt)) → n8 j = (fa 1 5) j from xr7_0), ⟨by decide, by decide⟩, rfl⟩, by rw [ht9]; exact hP9, hD9⟩, hS.F ht9⟩) hS.2.2 dX8_readWord_75
    · have fc6 := z_nle (rfl : (v5).toInt = _) (by decide : (8 : Int32).toInt = 8) c6
      refine lv_aload_n hx hb dX8_readWord_43 rfl (lv_at hl 1 rfl) ?_
      refine lv_iconst (v := 4) hx hb dX8_readWord_44 (by decide) ?_
      refine lv_aload_n hx hb dX8_readWord_45 rfl (lv_at hl 1 rfl) ?_
      refine gX_8_5 hx hb ht hown hK hP m_235 (v := n2) rfl dX8_readWord_46 ?_
      have hFc := free_all hD hS hA
      refine va_calli (va_runV (As := [.int 4, .int n2]) (rest := []) ⟨hx, hb, hml, hown, ht⟩ (c_X8_fail_r l dC dI H.size h g ca (u2 iv 8 5 n2) lv fa la (IX_i (c := 8) (k := 5) hI (show inb (0, 200) n2 from ⟨by omega, by omega⟩)) 4 n2 ⟨by decide, by decide⟩ ⟨by omega, by omega⟩) (kV 2 ht m_757 m_759 m_21 m_82 m_760 rfl rfl hd_X8_fail_v ⟨Nat.le_of_ble_eq_true rfl, Nat.le_of_ble_eq_true rfl⟩) (vW hP hK hD (rX_8 hK hP)) rfl rfl hl.1 rfl (lv_room (Nat.le_of_ble_eq_true rfl)) dX8_readWord_49 ⟨Nat.le_of_ble_eq_true rfl, Nat.le_of_ble_eq_true rfl⟩) hS (fun q _ h => hFc q h) hFc (fun r9 u t H1 locs ht9 hvm hr9 hB hz1 hk1 hS => ?_)
      obtain ⟨n10, n11, hn10, hn11, xr9_0, xr9_1, hr9, rfl⟩ := hr9
      have hn10 : (-1) ≤ n10.toInt ∧ n10.toInt ≤ 200 := hn10
      have hn11 : 0 ≤ n11.toInt ∧ n11.toInt ≤ 5 := hn11
      obtain ⟨hP, hD⟩ := hB
      rw [ht9] at hP
      generalize H1 = H at hP hS ⊢
      have hP : va_P (dC, dI) classes (WX h g ca (u2 (u2 (u2 iv 8 5 n2) 8 3 n10) 8 4 n11) lv fa la) H := hP
      have hD : va_D A (WX h g ca (u2 (u2 (u2 iv 8 5 n2) 8 3 n10) 8 4 n11) lv fa la) := (show va_D _ (WX h g ca (u2 (u2 (u2 iv 8 5 n2) 8 3 n10) 8 4 n11) lv fa la) from hD).weaken (fun _ _ _ h => hFc _ h)
      have : (4 : Int32).toInt = 4 := (by decide)
      have xr9_0 : (n11 : Int32).toInt = (4 : Int32).toInt := xr9_0
      have xr9_1 : (n10 : Int32).toInt = (n2 : Int32).toInt := xr9_1
      have hP9 : va_P (dC, dI) classes (WX h g ca (u2 (u2 (u2 iv 8 3 n10) 8 4 n11) 8 5 n2) lv (u2 fa 1 5 (fa 1 5)) la) H := hP
      have hD9 : va_D A (WX h g ca (u2 (u2 (u2 iv 8 3 n10) 8 4 n11) 8 5 n2) lv (u2 fa 1 5 (fa 1 5)) la) := hD
      exact W.zret (v := r9) hx hb hr (nar01 ⟨by omega, by omega⟩) (fun t ht9 hW => ⟨⟨r9, ((u2 (u2 (u2 iv 8 3 n10) 8 4 n11) 8 5 n2), lv, (u2 fa 1 5 (fa 1 5)), la), rfl, ⟨(fa 1 5), n10, n11, n2, (show inb ((-1), 200) n10 from ⟨by omega, by omega⟩), (show inb (0, 5) n11 from ⟨by omega, by omega⟩), (show inb (0, 200) n2 from ⟨by omega, by omega⟩), (show ∃ s e : Int, Sk (fun j => ((fa 8 1) j).toInt) ((iv 8 2) : Int32).toInt (iv 8 5).toInt s ∧ Rn (fun j => ((fa 8 1) j).toInt) ((iv 8 2) : Int32).toInt 97 122 s e ∧ (((r9 : Int32).toInt = 0 ∧ e = s ∧ (n11 : Int32).toInt = 1 ∧ (n10 : Int32).toInt = s) ∨ ((r9 : Int32).toInt = 0 ∧ 8 < e - s ∧ (n11 : Int32).toInt = 4 ∧ (n10 : Int32).toInt = s) ∨ ((r9 : Int32).toInt = 1 ∧ (n11 : Int32).toInt = (iv 8 4).toInt ∧ (n10 : Int32).toInt = (iv 8 3).toInt ∧ (n2 : Int32).toInt = e ∧ (s < e ∧ e - s ≤ 8) ∧ ∀ j : Nat, j < 8 → ((j : Int) < e - s → ((fa 1 5) ((8 * (12 * ((iv 1 7).toInt).toNat + ((iv 1 8).toInt).toNat)) + j)).toInt = ((fa 8 1) (s.toNat + j)).toInt) ∧ (e - s ≤ (j : Int) → ((fa 1 5) ((8 * (12 * ((iv 1 7).toInt).toNat + ((iv 1 8).toInt).toNat)) + j)).toInt = 0))) from (by exact ⟨_, _, xr1_0, xr3_0, Or.inr (Or.inl ⟨by omega, by omega, by omega, by omega⟩)⟩)), (show ∀ j : Nat, (j : Int) < (8 * (12 * (iv 1 7).toInt + (iv 1 8).toInt)) → (fa 1 5) j = (fa 1 5) j from fun j hj => rfl), ⟨by omega, by omega⟩, rfl⟩, by rw [ht9]; exact hP9, hD9⟩, hS.F ht9⟩) hS.2.2 dX8_readWord_52
  · have fc4 := z_eq (rfl : (r3).toInt = _) (rfl : (n2).toInt = _) c4
    refine lv_aload_n hx hb dX8_readWord_22 rfl (lv_at hl 1 rfl) ?_
    refine lv_iconst (v := 1) hx hb dX8_readWord_23 (by decide) ?_
    refine lv_aload_n hx hb dX8_readWord_24 rfl (lv_at hl 1 rfl) ?_
    refine gX_8_5 hx hb ht hown hK hP m_235 (v := n2) rfl dX8_readWord_25 ?_
    have hFc := free_all hD hS hA
    refine va_calli (va_runV (As := [.int 1, .int n2]) (rest := []) ⟨hx, hb, hml, hown, ht⟩ (c_X8_fail_r l dC dI H.size h g ca (u2 iv 8 5 n2) lv fa la (IX_i (c := 8) (k := 5) hI (show inb (0, 200) n2 from ⟨by omega, by omega⟩)) 1 n2 ⟨by decide, by decide⟩ ⟨by omega, by omega⟩) (kV 2 ht m_757 m_759 m_21 m_82 m_760 rfl rfl hd_X8_fail_v ⟨Nat.le_of_ble_eq_true rfl, Nat.le_of_ble_eq_true rfl⟩) (vW hP hK hD (rX_8 hK hP)) rfl rfl hl.1 rfl (lv_room (Nat.le_of_ble_eq_true rfl)) dX8_readWord_28 ⟨Nat.le_of_ble_eq_true rfl, Nat.le_of_ble_eq_true rfl⟩) hS (fun q _ h => hFc q h) hFc (fun r12 u t H1 locs ht9 hvm hr12 hB hz1 hk1 hS => ?_)
    obtain ⟨n13, n14, hn13, hn14, xr12_0, xr12_1, hr12, rfl⟩ := hr12
    have hn13 : (-1) ≤ n13.toInt ∧ n13.toInt ≤ 200 := hn13
    have hn14 : 0 ≤ n14.toInt ∧ n14.toInt ≤ 5 := hn14
    obtain ⟨hP, hD⟩ := hB
    rw [ht9] at hP
    generalize H1 = H at hP hS ⊢
    have hP : va_P (dC, dI) classes (WX h g ca (u2 (u2 (u2 iv 8 5 n2) 8 3 n13) 8 4 n14) lv fa la) H := hP
    have hD : va_D A (WX h g ca (u2 (u2 (u2 iv 8 5 n2) 8 3 n13) 8 4 n14) lv fa la) := (show va_D _ (WX h g ca (u2 (u2 (u2 iv 8 5 n2) 8 3 n13) 8 4 n14) lv fa la) from hD).weaken (fun _ _ _ h => hFc _ h)
    have : (1 : Int32).toInt = 1 := (by decide)
    have xr12_0 : (n14 : Int32).toInt = (1 : Int32).toInt := xr12_0
    have xr12_1 : (n13 : Int32).toInt = (n2 : Int32).toInt := xr12_1
    have hP9 : va_P (dC, dI) classes (WX h g ca (u2 (u2 (u2 iv 8 3 n13) 8 4 n14) 8 5 n2) lv (u2 fa 1 5 (fa 1 5)) la) H := hP
    have hD9 : va_D A (WX h g ca (u2 (u2 (u2 iv 8 3 n13) 8 4 n14) 8 5 n2) lv (u2 fa 1 5 (fa 1 5)) la) := hD
    exact W.zret (v := r12) hx hb hr (nar01 ⟨by omega, by omega⟩) (fun t ht9 hW => ⟨⟨r12, ((u2 (u2 (u2 iv 8 3 n13) 8 4 n14) 8 5 n2), lv, (u2 fa 1 5 (fa 1 5)), la), rfl, ⟨(fa 1 5), n13, n14, n2, (show inb ((-1), 200) n13 from ⟨by omega, by omega⟩), (show inb (0, 5) n14 from ⟨by omega, by omega⟩), (show inb (0, 200) n2 from ⟨by omega, by omega⟩), (show ∃ s e : Int, Sk (fun j => ((fa 8 1) j).toInt) ((iv 8 2) : Int32).toInt (iv 8 5).toInt s ∧ Rn (fun j => ((fa 8 1) j).toInt) ((iv 8 2) : Int32).toInt 97 122 s e ∧ (((r12 : Int32).toInt = 0 ∧ e = s ∧ (n14 : Int32).toInt = 1 ∧ (n13 : Int32).toInt = s) ∨ ((r12 : Int32).toInt = 0 ∧ 8 < e - s ∧ (n14 : Int32).toInt = 4 ∧ (n13 : Int32).toInt = s) ∨ ((r12 : Int32).toInt = 1 ∧ (n14 : Int32).toInt = (iv 8 4).toInt ∧ (n13 : Int32).toInt = (iv 8 3).toInt ∧ (n2 : Int32).toInt = e ∧ (s < e ∧ e - s ≤ 8) ∧ ∀ j : Nat, j < 8 → ((j : Int) < e - s → ((fa 1 5) ((8 * (12 * ((iv 1 7).toInt).toNat + ((iv 1 8).toInt).toNat)) + j)).toInt = ((fa 8 1) (s.toNat + j)).toInt) ∧ (e - s ≤ (j : Int) → ((fa 1 5) ((8 * (12 * ((iv 1 7).toInt).toNat + ((iv 1 8).toInt).toNat)) + j)).toInt = 0))) from (by exact ⟨_, _, xr1_0, xr3_0, Or.inl ⟨by omega, by omega, by omega, by omega⟩⟩)), (show ∀ j : Nat, (j : Int) < (8 * (12 * (iv 1 7).toInt + (iv 1 8).toInt)) → (fa 1 5) j = (fa 1 5) j from fun j hj => rfl), ⟨by omega, by omega⟩, rfl⟩, by rw [ht9]; exact hP9, hD9⟩, hS.F ht9⟩) hS.2.2 dX8_readWord_31
/-! ===== rd5 ===== -/
set_option maxHeartbeats 4000000 in
set_option maxRecDepth 100000 in
/-- X8_readLet -/
theorem c_X8_readLet_r (l : Launch) (dC : Nat → ClassId) (dI : Nat → Nat → Nat) (sz : Nat) (ak av : Nat → Nat) (h : Nat) (g : Nat → Nat → Nat) (ca : Nat → Nat → ClassId) (iv : Nat → Nat → Int32) (lv : Nat → Nat → Int64) (fa : Nat → Nat → Nat → Int32) (la : Nat → Nat → Nat → Int64) (hI : IX iv fa) (q_1_7 : 0 ≤ (iv 1 7).toInt ∧ (iv 1 7).toInt ≤ 7) (q_1_8 : 0 ≤ (iv 1 8).toInt ∧ (iv 1 8).toInt ≤ 11) : Met l yX8_readLet (wc yX8_readLet cX8_readLet 3 (some .boolean)) ({ frames := 6, cells := 0, slots := 0, locals := 135 } : Room) (pWZ ak av (dC, dI) classes (WX h g ca iv lv fa la) (TX ca) sz [.ref (g 11 4)]) (va_Qi (fun r (u : SS) => ∃ (na_1_2 : Nat → Int32) (na_1_3 : Nat → Int32) (na_1_4 : Nat → Int32) (ni_1_8 : Int32) (ni_8_3 : Int32) (ni_8_4 : Int32) (ni_8_5 : Int32), inb (bI 1 8) ni_1_8 ∧ inb (bI 8 3) ni_8_3 ∧ inb (bI 8 4) ni_8_4 ∧ inb (bI 8 5) ni_8_5 ∧ (((r.toInt = 0 ∧ 1 ≤ (ni_8_4).toInt ∧ (ni_1_8).toInt = (iv 1 8).toInt ∧ ∃ b kd v1 : Int, LetR (fun j => ((fa 8 1) j).toInt) (iv 8 2).toInt (iv 8 5).toInt (ni_8_4).toInt (ni_8_3).toInt b kd v1 ) ∨ (r.toInt = 1 ∧ (ni_8_4).toInt = (iv 8 4).toInt ∧ (ni_8_3).toInt = (iv 8 3).toInt ∧ (ni_1_8).toInt = (iv 1 8).toInt + 1 ∧ LetR (fun j => ((fa 8 1) j).toInt) (iv 8 2).toInt (iv 8 5).toInt 0 0 (ni_8_5).toInt (na_1_2 (12 * ((iv 1 7).toInt).toNat + ((iv 1 8).toInt).toNat)).toInt (na_1_3 (12 * ((iv 1 7).toInt).toNat + ((iv 1 8).toInt).toNat)).toInt))) ∧ (∀ j : Nat, (j : Int) < 12 * (iv 1 7).toInt + (iv 1 8).toInt → na_1_2 j = (fa 1 2) j ∧ na_1_3 j = (fa 1 3) j ∧ na_1_4 j = (fa 1 4) j) ∧ (0 ≤ r.toInt ∧ r.toInt ≤ 1) ∧ u = ((u2 (u2 (u2 (u2 iv 1 8 ni_1_8) 8 3 ni_8_3) 8 4 ni_8_4) 8 5 ni_8_5), lv, (u2 (u2 (u2 fa 1 2 na_1_2) 1 3 na_1_3) 1 4 na_1_4), la)) (bX (dC, dI) h g ca (va_A (WX h g ca iv lv fa la) sz)) (va_A (WX h g ca iv lv fa la) sz)) 0 0 (va_A (WX h g ca iv lv fa la) sz) := by
  refine Met.ofW (cc := cX8_readLet) (maxL := 3) (ret := (some .boolean)) (by decide) rfl ?_
  intro p e s m args below meth c s₁ B hml hv
  obtain ⟨rfl, hsz, hP, hK, hD0, hZ⟩ := hv
  have hx := B.exec
  have hb := B.bytes
  have hr := B.returns
  have ht := tb_tl (atoms_spec (ws := wc yX8_readLet cX8_readLet 3 (some .boolean)) B.pre)
  have hown : s.vm.findClass RX8 = some m.cls := findClass_of_methodNamed B.named
  have hlocks := B.notSynchronized
  subst hsz
  have hD := hD0.self (sz := s.heap.size)
  generalize hAe : va_A (WX h g ca iv lv fa la) s.heap.size = A at hD hZ ⊢
  have hA : ∀ q : Nat, s.heap.size ≤ q → A q := fun q h => by rw [← hAe]; exact Or.inr h
  have hS : va_S A s.heap s.heap [] := va_S.rf
  have hl := lv_entry [.ref (g 11 4)] (n := 3) (Nat.le_of_ble_eq_true rfl)
  rw [lg_entry_eq]
  generalize (lg_sl [.ref (g 11 4)] ++ List.replicate (3 - (lg_sl [.ref (g 11 4)]).length) Slot.unset).toArray = ls at hl ⊢
  have hl : lv_has ls 3 [(0, .ref (g 11 4))] := hl
  refine lv_aload_n hx hb dX8_readLet_0 rfl (lv_at hl 0 rfl) ?_
  refine va_ldcS hx hb hown hZ.2.2.1 dX8_readLet_1 ?_
  have i_8_5 : 0 ≤ (iv 8 5).toInt ∧ (iv 8 5).toInt ≤ 200 := hI.1 8 5
  have i_8_4 : 0 ≤ (iv 8 4).toInt ∧ (iv 8 4).toInt ≤ 5 := hI.1 8 4
  have i_8_3 : (-1) ≤ (iv 8 3).toInt ∧ (iv 8 3).toInt ≤ 200 := hI.1 8 3
  have hFc := free_all hD hS hA
  refine va_calli (va_runV (As := [.ref (ak 1)]) (rest := []) ⟨hx, hb, hml, hown, ht⟩ (c_X8_readOneOf_r1 l dC dI s.heap.size ak av h g ca iv lv fa la hI) (kV 1 ht m_697 m_699 m_18 m_82 m_700 rfl rfl hd_X8_readOneOf_v ⟨Nat.le_of_ble_eq_true rfl, Nat.le_of_ble_eq_true rfl⟩) (vWZ hP hK hD ((hZ.kept hS.2.1).narrow (free_all hD hS hA)) (rX_8 hK hP)) rfl rfl hl.1 rfl (lv_room (Nat.le_of_ble_eq_true rfl)) dX8_readLet_3 ⟨Nat.le_of_ble_eq_true rfl, Nat.le_of_ble_eq_true rfl⟩) hS (fun q _ h => hFc q h) hFc (fun r1 u t H1 locs ht9 hvm hr1 hB hz1 hk1 hS => ?_)
  obtain ⟨n2, n3, n4, hn2, hn3, hn4, xr1_0, hr1, rfl⟩ := hr1
  have hn2 : (-1) ≤ n2.toInt ∧ n2.toInt ≤ 200 := hn2
  have hn3 : 0 ≤ n3.toInt ∧ n3.toInt ≤ 5 := hn3
  have hn4 : 0 ≤ n4.toInt ∧ n4.toInt ≤ 200 := hn4
  obtain ⟨hP, hD⟩ := hB
  rw [ht9] at hP
  generalize H1 = H at hP hS ⊢
  have hP : va_P (dC, dI) classes (WX h g ca (u2 (u2 (u2 iv 8 3 n2) 8 4 n3) 8 5 n4) lv fa la) H := hP
  have hD : va_D A (WX h g ca (u2 (u2 (u2 iv 8 3 n2) 8 4 n3) 8 5 n4) lv fa la) := (show va_D _ (WX h g ca (u2 (u2 (u2 iv 8 3 n2) 8 4 n3) 8 5 n4) lv fa la) from hD).weaken (fun _ _ _ h => hFc _ h)
  have i_8_2 : 0 ≤ (iv 8 2).toInt ∧ (iv 8 2).toInt ≤ 200 := hI.1 8 2
  have xr1_0 : ∃ s e : Int, Sk (fun j => ((fa 8 1) j).toInt) ((iv 8 2) : Int32).toInt ((iv 8 5) : Int32).toInt s ∧ Rn (fun j => ((fa 8 1) j).toInt) ((iv 8 2) : Int32).toInt 97 122 s e ∧ (((r1 : Int32).toInt = -1 ∧ kwN (fun j => ((fa 8 1) j).toInt) s e = -1 ∧ (n3 : Int32).toInt = 1 ∧ (n2 : Int32).toInt = s) ∨ (0 ≤ (r1 : Int32).toInt ∧ (r1 : Int32).toInt = kwN (fun j => ((fa 8 1) j).toInt) s e ∧ (n3 : Int32).toInt = ((iv 8 4) : Int32).toInt ∧ (n2 : Int32).toInt = ((iv 8 3) : Int32).toInt ∧ (n4 : Int32).toInt = e)) := xr1_0
  refine lv_istore_n (lv' := [(1, .int r1), (0, .ref (g 11 4))]) hx hb dX8_readLet_6 rfl hl (by decide) rfl (fun ls hl => ?_)
  refine lv_iload_n hx hb dX8_readLet_7 rfl (lv_at hl 0 rfl) ?_
  refine lv_iconst (v := (-1)) hx hb dX8_readLet_8 (by decide) ?_
  refine lv_icmp_ne (tgt := 14) hx hb dX8_readLet_9 (by decide) (fun c5 => ?_) (fun c5 => ?_)
  · have fc5 := z_ne (rfl : (r1).toInt = _) (by decide : ((-1) : Int32).toInt = (-1)) c5
    refine lv_aload_n hx hb dX8_readLet_14 rfl (lv_at hl 1 rfl) ?_
    obtain ⟨tz6, hztz6, hytz6⟩ := hZ.1.2.1
    refine va_gets hx hb hztz6 hS hown (ht _ m_766) (fun _ h9 => h9) dX8_readLet_15 ?_
    refine lv_iload_n hx hb dX8_readLet_18 rfl (lv_at hl 0 rfl) ?_
    refine va_ti (v := .int (C_LN (r1 : Int32).toNatClampNeg)) hx hb hytz6 hS (vp_in_iff.mpr ⟨by omega, by omega⟩) rfl dX8_readLet_19 ?_
    refine lv_topi (fun v7 ev7 => ?_)
    obtain ⟨tz8, hztz8, hytz8⟩ := hZ.1.2.2.1
    refine va_gets hx hb hztz8 hS hown (ht _ m_768) (fun _ h9 => h9) dX8_readLet_20 ?_
    refine lv_iload_n hx hb dX8_readLet_23 rfl (lv_at hl 0 rfl) ?_
    refine va_ti (v := .int (C_MN (r1 : Int32).toNatClampNeg)) hx hb hytz8 hS (vp_in_iff.mpr ⟨by omega, by omega⟩) rfl dX8_readLet_24 ?_
    refine lv_topi (fun v9 ev9 => ?_)
    have hlo9 : (v7 : Int32).toInt = loN (r1 : Int32).toInt := by rw [ev7]; exact tab_lo ⟨by omega, by omega⟩
    have hhi9 : (v9 : Int32).toInt = hiN (r1 : Int32).toInt := by rw [ev9]; exact tab_hi ⟨by omega, by omega⟩
    have hlb9 := loN_b (r1 : Int32).toInt
    have : 0 ≤ (v7 : Int32).toInt ∧ (v7 : Int32).toInt ≤ 1 := ⟨by omega, by omega⟩
    have hFc := free_all hD hS hA
    refine va_calli (va_runV (As := [.int v7, .int v9]) (rest := []) ⟨hx, hb, hml, hown, ht⟩ (c_X8_readNumber_r l dC dI H.size ak av h g ca (u2 (u2 (u2 iv 8 3 n2) 8 4 n3) 8 5 n4) lv fa la (IX_i (c := 8) (k := 5) (IX_i (c := 8) (k := 4) (IX_i (c := 8) (k := 3) hI (show inb ((-1), 200) n2 from ⟨by omega, by omega⟩)) (show inb (0, 5) n3 from ⟨by omega, by omega⟩)) (show inb (0, 200) n4 from ⟨by omega, by omega⟩)) v7 v9 (show 0 ≤ (v7 : Int32).toInt from by omega)) (kV 2 ht m_770 m_772 m_23 m_82 m_773 rfl rfl hd_X8_readNumber_v ⟨Nat.le_of_ble_eq_true rfl, Nat.le_of_ble_eq_true rfl⟩) (vWZ hP hK hD ((hZ.kept hS.2.1).narrow (free_all hD hS hA)) (rX_8 hK hP)) rfl rfl hl.1 rfl (lv_room (Nat.le_of_ble_eq_true rfl)) dX8_readLet_25 ⟨Nat.le_of_ble_eq_true rfl, Nat.le_of_ble_eq_true rfl⟩) hS (fun q _ h => hFc q h) hFc (fun r10 u t H1 locs ht9 hvm hr10 hB hz1 hk1 hS => ?_)
    obtain ⟨n11, n12, n13, hn11, hn12, hn13, xr10_0, xr10_1, hr10, rfl⟩ := hr10
    have hn11 : (-1) ≤ n11.toInt ∧ n11.toInt ≤ 200 := hn11
    have hn12 : 0 ≤ n12.toInt ∧ n12.toInt ≤ 5 := hn12
    have hn13 : 0 ≤ n13.toInt ∧ n13.toInt ≤ 200 := hn13
    obtain ⟨hP, hD⟩ := hB
    rw [ht9] at hP
    generalize H1 = H at hP hS ⊢
    have hP : va_P (dC, dI) classes (WX h g ca (u2 (u2 (u2 iv 8 3 n11) 8 4 n12) 8 5 n13) lv fa la) H := hP
    have hD : va_D A (WX h g ca (u2 (u2 (u2 iv 8 3 n11) 8 4 n12) 8 5 n13) lv fa la) := (show va_D _ (WX h g ca (u2 (u2 (u2 iv 8 3 n11) 8 4 n12) 8 5 n13) lv fa la) from hD).weaken (fun _ _ _ h => hFc _ h)
    have xr10_0 : (((r10 : Int32).toInt = -1 ∧ 1 ≤ (n12 : Int32).toInt ∧ Num (fun j => ((fa 8 1) j).toInt) ((iv 8 2) : Int32).toInt (v7 : Int32).toInt (v9 : Int32).toInt (n4 : Int32).toInt (n12 : Int32).toInt (n11 : Int32).toInt 0 0) ∨ (0 ≤ (r10 : Int32).toInt ∧ (n12 : Int32).toInt = (n3 : Int32).toInt ∧ (n11 : Int32).toInt = (n2 : Int32).toInt ∧ Num (fun j => ((fa 8 1) j).toInt) ((iv 8 2) : Int32).toInt (v7 : Int32).toInt (v9 : Int32).toInt (n4 : Int32).toInt 0 0 (r10 : Int32).toInt (n13 : Int32).toInt)) := xr10_0
    have xr10_1 : (r10 : Int32).toInt ≤ 9999 := xr10_1
    refine lv_istore_n (lv' := [(2, .int r10), (1, .int r1), (0, .ref (g 11 4))]) hx hb dX8_readLet_28 rfl hl (by decide) rfl (fun ls hl => ?_)
    refine lv_iload_n hx hb dX8_readLet_29 rfl (lv_at hl 0 rfl) ?_
    refine lv_iconst (v := (-1)) hx hb dX8_readLet_30 (by decide) ?_
    refine lv_icmp_eq (tgt := 41) hx hb dX8_readLet_31 (by decide) (fun c14 => ?_) (fun c14 => ?_)
    · have fc14 := z_eq (rfl : (r10).toInt = _) (by decide : ((-1) : Int32).toInt = (-1)) c14
      refine lv_iconst (v := 0) hx hb dX8_readLet_41 (by decide) ?_
      have : (0 : Int32).toInt = 0 := (by decide)
      have i_1_8 : 0 ≤ (iv 1 8).toInt ∧ (iv 1 8).toInt ≤ 12 := hI.1 1 8
      have hP9 : va_P (dC, dI) classes (WX h g ca (u2 (u2 (u2 (u2 iv 1 8 (iv 1 8)) 8 3 n11) 8 4 n12) 8 5 n13) lv (u2 (u2 (u2 fa 1 2 (fa 1 2)) 1 3 (fa 1 3)) 1 4 (fa 1 4)) la) H := hP
      have hD9 : va_D A (WX h g ca (u2 (u2 (u2 (u2 iv 1 8 (iv 1 8)) 8 3 n11) 8 4 n12) 8 5 n13) lv (u2 (u2 (u2 fa 1 2 (fa 1 2)) 1 3 (fa 1 3)) 1 4 (fa 1 4)) la) := hD
      exact W.zret (v := 0) hx hb hr rfl (fun t ht9 hW => ⟨⟨0, ((u2 (u2 (u2 (u2 iv 1 8 (iv 1 8)) 8 3 n11) 8 4 n12) 8 5 n13), lv, (u2 (u2 (u2 fa 1 2 (fa 1 2)) 1 3 (fa 1 3)) 1 4 (fa 1 4)), la), rfl, ⟨(fa 1 2), (fa 1 3), (fa 1 4), (iv 1 8), n11, n12, n13, (hI.1 1 8), (show inb ((-1), 200) n11 from ⟨by omega, by omega⟩), (show inb (0, 5) n12 from ⟨by omega, by omega⟩), (show inb (0, 200) n13 from ⟨by omega, by omega⟩), (show (((0 : Int32).toInt = 0 ∧ 1 ≤ (n12 : Int32).toInt ∧ ((iv 1 8) : Int32).toInt = (iv 1 8).toInt ∧ ∃ b kd v1 : Int, LetR (fun j => ((fa 8 1) j).toInt) ((iv 8 2) : Int32).toInt (iv 8 5).toInt (n12 : Int32).toInt (n11 : Int32).toInt b kd v1 ) ∨ ((0 : Int32).toInt = 1 ∧ (n12 : Int32).toInt = (iv 8 4).toInt ∧ (n11 : Int32).toInt = (iv 8 3).toInt ∧ ((iv 1 8) : Int32).toInt = (iv 1 8).toInt + 1 ∧ LetR (fun j => ((fa 8 1) j).toInt) ((iv 8 2) : Int32).toInt (iv 8 5).toInt 0 0 (n13 : Int32).toInt ((fa 1 2) (12 * ((iv 1 7).toInt).toNat + ((iv 1 8).toInt).toNat)).toInt ((fa 1 3) (12 * ((iv 1 7).toInt).toNat + ((iv 1 8).toInt).toNat)).toInt)) from (by
            obtain ⟨s, e, k1, k2, k3⟩ := xr1_0
            rcases k3 with ⟨k4, -⟩ | ⟨k4, k5, k6, k7, k8⟩
            · exfalso; omega
            · rcases xr10_0 with ⟨n1, n2, n3⟩ | ⟨n1, -⟩
              · rw [hlo9, hhi9, k8, k5] at n3
                exact Or.inl ⟨by omega, by omega, by omega, 0, 0, 0, s, e, k1, k2, Or.inr ⟨by omega, _, _, _, n3, Or.inl ⟨by omega, rfl, rfl⟩⟩⟩
              · exfalso; omega)), (show ∀ j : Nat, (j : Int) < 12 * (iv 1 7).toInt + (iv 1 8).toInt → (fa 1 2) j = (fa 1 2) j ∧ (fa 1 3) j = (fa 1 3) j ∧ (fa 1 4) j = (fa 1 4) j from fun j hj => ⟨rfl, rfl, rfl⟩), ⟨by decide, by decide⟩, rfl⟩, by rw [ht9]; exact hP9, hD9⟩, hS.F ht9⟩) hS.2.2 dX8_readLet_42
    · have fc14 := z_ne (rfl : (r10).toInt = _) (by decide : ((-1) : Int32).toInt = (-1)) c14
      refine lv_aload_n hx hb dX8_readLet_34 rfl (lv_at hl 2 rfl) ?_
      have hFc := free_all hD hS hA
      refine va_calli (va_runV (As := []) (rest := []) ⟨hx, hb, hml, hown, ht⟩ (c_X8_readStop_r l dC dI H.size h g ca (u2 (u2 (u2 iv 8 3 n11) 8 4 n12) 8 5 n13) lv fa la (IX_i (c := 8) (k := 5) (IX_i (c := 8) (k := 4) (IX_i (c := 8) (k := 3) hI (show inb ((-1), 200) n11 from ⟨by omega, by omega⟩)) (show inb (0, 5) n12 from ⟨by omega, by omega⟩)) (show inb (0, 200) n13 from ⟨by omega, by omega⟩))) (kV 0 ht m_775 m_777 m_24 m_82 m_778 rfl rfl hd_X8_readStop_v ⟨Nat.le_of_ble_eq_true rfl, Nat.le_of_ble_eq_true rfl⟩) (vW hP hK hD (rX_8 hK hP)) rfl rfl hl.1 rfl (lv_room (Nat.le_of_ble_eq_true rfl)) dX8_readLet_35 ⟨Nat.le_of_ble_eq_true rfl, Nat.le_of_ble_eq_true rfl⟩) hS (fun q _ h => hFc q h) hFc (fun r15 u t H1 locs ht9 hvm hr15 hB hz1 hk1 hS => ?_)
      obtain ⟨n16, n17, n18, hn16, hn17, hn18, xr15_0, hr15, rfl⟩ := hr15
      have hn16 : (-1) ≤ n16.toInt ∧ n16.toInt ≤ 200 := hn16
      have hn17 : 0 ≤ n17.toInt ∧ n17.toInt ≤ 5 := hn17
      have hn18 : 0 ≤ n18.toInt ∧ n18.toInt ≤ 200 := hn18
      obtain ⟨hP, hD⟩ := hB
      rw [ht9] at hP
      generalize H1 = H at hP hS ⊢
      have hP : va_P (dC, dI) classes (WX h g ca (u2 (u2 (u2 iv 8 3 n16) 8 4 n17) 8 5 n18) lv fa la) H := hP
      have hD : va_D A (WX h g ca (u2 (u2 (u2 iv 8 3 n16) 8 4 n17) 8 5 n18) lv fa la) := (show va_D _ (WX h g ca (u2 (u2 (u2 iv 8 3 n16) 8 4 n17) 8 5 n18) lv fa la) from hD).weaken (fun _ _ _ h => hFc _ h)
      have xr15_0 : (((r15 : Int32).toInt = 0 ∧ 1 ≤ (n17 : Int32).toInt ∧ StpR (fun j => ((fa 8 1) j).toInt) ((iv 8 2) : Int32).toInt (n13 : Int32).toInt (n17 : Int32).toInt (n16 : Int32).toInt 0) ∨ ((r15 : Int32).toInt = 1 ∧ (n17 : Int32).toInt = (n12 : Int32).toInt ∧ (n16 : Int32).toInt = (n11 : Int32).toInt ∧ StpR (fun j => ((fa 8 1) j).toInt) ((iv 8 2) : Int32).toInt (n13 : Int32).toInt 0 0 (n18 : Int32).toInt)) := xr15_0
      refine lv_if_ne (tgt := 43) hx hb dX8_readLet_38 (by decide) (fun c19 => ?_) (fun c19 => ?_)
      · have fc19 := z_ne (rfl : (r15).toInt = _) (by decide : (0 : Int32).toInt = 0) c19
        refine lv_aload_n hx hb dX8_readLet_43 rfl (lv_at hl 2 rfl) ?_
        refine gX_8_0 hx hb ht hown hK hP m_228 dX8_readLet_44 ?_
        refine lv_iload_n hx hb dX8_readLet_47 rfl (lv_at hl 1 rfl) ?_
        refine lv_iload_n hx hb dX8_readLet_48 rfl (lv_at hl 0 rfl) ?_
        refine lv_iconst (v := 0) hx hb dX8_readLet_49 (by decide) ?_
        have i_1_7 : 0 ≤ (iv 1 7).toInt ∧ (iv 1 7).toInt ≤ 8 := hI.1 1 7
        have i_1_8 : 0 ≤ (iv 1 8).toInt ∧ (iv 1 8).toInt ≤ 12 := hI.1 1 8
        have hFc := free_all hD hS hA
        refine va_callv (va_runV (As := [.int r1, .int r10, .int 0]) (rest := []) ⟨hx, hb, hml, hown, ht⟩ (c_X1_draft_r l dC dI H.size h g ca (u2 (u2 (u2 iv 8 3 n16) 8 4 n17) 8 5 n18) lv fa la (IX_i (c := 8) (k := 5) (IX_i (c := 8) (k := 4) (IX_i (c := 8) (k := 3) hI (show inb ((-1), 200) n16 from ⟨by omega, by omega⟩)) (show inb (0, 5) n17 from ⟨by omega, by omega⟩)) (show inb (0, 200) n18 from ⟨by omega, by omega⟩)) r1 r10 0 (show 0 ≤ ((iv 1 7) : Int32).toInt ∧ ((iv 1 7) : Int32).toInt ≤ 7 from ⟨by omega, by omega⟩) (show 0 ≤ ((iv 1 8) : Int32).toInt ∧ ((iv 1 8) : Int32).toInt ≤ 11 from ⟨by omega, by omega⟩)) (kV 3 ht m_779 m_780 m_781 m_81 m_782 rfl rfl hd_X1_draft_v ⟨Nat.le_of_ble_eq_true rfl, Nat.le_of_ble_eq_true rfl⟩) (vW hP hK hD (rX_1 hK hP)) rfl rfl hl.1 rfl (lv_room (Nat.le_of_ble_eq_true rfl)) dX8_readLet_50 ⟨Nat.le_of_ble_eq_true rfl, Nat.le_of_ble_eq_true rfl⟩) hS (fun q _ h => hFc q h) hFc (fun u t H1 locs ht9 hvm hr20 hB hz1 hk1 hS => ?_)
        obtain ⟨n21, n22, n23, n24, hn24, dn24, xr20_0, xr20_1, xr20_2, xr20_3, xr20_4, rfl⟩ := hr20
        have hn21 : ∀ j, inb (bA 1 2 j) (n21 j) := fun j => full_i _
        have hn22 : ∀ j, inb (bA 1 3 j) (n22 j) := fun j => full_i _
        have hn23 : ∀ j, inb (bA 1 4 j) (n23 j) := fun j => full_i _
        have dn24 : n24.toInt = ((iv 1 8) : Int32).toInt + 1 := dn24
        have hn24 : 0 ≤ n24.toInt ∧ n24.toInt ≤ 12 := hn24
        obtain ⟨hP, hD⟩ := hB
        rw [ht9] at hP
        generalize H1 = H at hP hS ⊢
        have hP : va_P (dC, dI) classes (WX h g ca (u2 (u2 (u2 (u2 iv 8 3 n16) 8 4 n17) 8 5 n18) 1 8 n24) lv (u2 (u2 (u2 fa 1 2 n21) 1 3 n22) 1 4 n23) la) H := hP
        have hD : va_D A (WX h g ca (u2 (u2 (u2 (u2 iv 8 3 n16) 8 4 n17) 8 5 n18) 1 8 n24) lv (u2 (u2 (u2 fa 1 2 n21) 1 3 n22) 1 4 n23) la) := (show va_D _ (WX h g ca (u2 (u2 (u2 (u2 iv 8 3 n16) 8 4 n17) 8 5 n18) 1 8 n24) lv (u2 (u2 (u2 fa 1 2 n21) 1 3 n22) 1 4 n23) la) from hD).weaken (fun _ _ _ h => hFc _ h)
        have xr20_0 : ∀ j : Nat, (j : Int) < 12 * ((iv 1 7) : Int32).toInt + ((iv 1 8) : Int32).toInt → n21 j = (fa 1 2) j ∧ n22 j = (fa 1 3) j ∧ n23 j = (fa 1 4) j := xr20_0
        have xr20_1 : n21 (12 * (((iv 1 7) : Int32).toInt).toNat + (((iv 1 8) : Int32).toInt).toNat) = (r1 : Int32) := xr20_1
        have xr20_2 : n22 (12 * (((iv 1 7) : Int32).toInt).toNat + (((iv 1 8) : Int32).toInt).toNat) = (r10 : Int32) := xr20_2
        have xr20_3 : n23 (12 * (((iv 1 7) : Int32).toInt).toNat + (((iv 1 8) : Int32).toInt).toNat) = (0 : Int32) := xr20_3
        have xr20_4 : (n24 : Int32).toInt = ((iv 1 8) : Int32).toInt + 1 := xr20_4
        refine lv_iconst (v := 1) hx hb dX8_readLet_53 (by decide) ?_
        have : (1 : Int32).toInt = 1 := (by decide)
        have hP9 : va_P (dC, dI) classes (WX h g ca (u2 (u2 (u2 (u2 iv 1 8 n24) 8 3 n16) 8 4 n17) 8 5 n18) lv (u2 (u2 (u2 fa 1 2 n21) 1 3 n22) 1 4 n23) la) H := hP
        have hD9 : va_D A (WX h g ca (u2 (u2 (u2 (u2 iv 1 8 n24) 8 3 n16) 8 4 n17) 8 5 n18) lv (u2 (u2 (u2 fa 1 2 n21) 1 3 n22) 1 4 n23) la) := hD
        exact W.zret (v := 1) hx hb hr rfl (fun t ht9 hW => ⟨⟨1, ((u2 (u2 (u2 (u2 iv 1 8 n24) 8 3 n16) 8 4 n17) 8 5 n18), lv, (u2 (u2 (u2 fa 1 2 n21) 1 3 n22) 1 4 n23), la), rfl, ⟨n21, n22, n23, n24, n16, n17, n18, (show inb (0, 12) n24 from ⟨by omega, by omega⟩), (show inb ((-1), 200) n16 from ⟨by omega, by omega⟩), (show inb (0, 5) n17 from ⟨by omega, by omega⟩), (show inb (0, 200) n18 from ⟨by omega, by omega⟩), (show (((1 : Int32).toInt = 0 ∧ 1 ≤ (n17 : Int32).toInt ∧ (n24 : Int32).toInt = (iv 1 8).toInt ∧ ∃ b kd v1 : Int, LetR (fun j => ((fa 8 1) j).toInt) ((iv 8 2) : Int32).toInt (iv 8 5).toInt (n17 : Int32).toInt (n16 : Int32).toInt b kd v1 ) ∨ ((1 : Int32).toInt = 1 ∧ (n17 : Int32).toInt = (iv 8 4).toInt ∧ (n16 : Int32).toInt = (iv 8 3).toInt ∧ (n24 : Int32).toInt = (iv 1 8).toInt + 1 ∧ LetR (fun j => ((fa 8 1) j).toInt) ((iv 8 2) : Int32).toInt (iv 8 5).toInt 0 0 (n18 : Int32).toInt (n21 (12 * ((iv 1 7).toInt).toNat + ((iv 1 8).toInt).toNat)).toInt (n22 (12 * ((iv 1 7).toInt).toNat + ((iv 1 8).toInt).toNat)).toInt)) from (by
              obtain ⟨s, e, k1, k2, k3⟩ := xr1_0
              rcases k3 with ⟨k4, -⟩ | ⟨k4, k5, k6, k7, k8⟩
              · exfalso; omega
              · rcases xr10_0 with ⟨n1, -⟩ | ⟨n1, n2, n3, n4⟩
                · exfalso; omega
                · rw [hlo9, hhi9, k8, k5] at n4
                  rcases xr15_0 with ⟨p1, -⟩ | ⟨p1, p2, p3, p4⟩
                  · exfalso; omega
                  · rw [xr20_1, xr20_2]; exact Or.inr ⟨by omega, by omega, by omega, by omega, s, e, k1, k2, Or.inr ⟨by omega, _, _, _, n4, Or.inr ⟨rfl, by omega, p4⟩⟩⟩)), (show ∀ j : Nat, (j : Int) < 12 * (iv 1 7).toInt + (iv 1 8).toInt → n21 j = (fa 1 2) j ∧ n22 j = (fa 1 3) j ∧ n23 j = (fa 1 4) j from xr20_0), ⟨by decide, by decide⟩, rfl⟩, by rw [ht9]; exact hP9, hD9⟩, hS.F ht9⟩) hS.2.2 dX8_readLet_54
      · have fc19 := z_eq (rfl : (r15).toInt = _) (by decide : (0 : Int32).toInt = 0) c19
        refine lv_iconst (v := 0) hx hb dX8_readLet_41 (by decide) ?_
        have : (0 : Int32).toInt = 0 := (by decide)
        have i_1_8 : 0 ≤ (iv 1 8).toInt ∧ (iv 1 8).toInt ≤ 12 := hI.1 1 8
        have hP9 : va_P (dC, dI) classes (WX h g ca (u2 (u2 (u2 (u2 iv 1 8 (iv 1 8)) 8 3 n16) 8 4 n17) 8 5 n18) lv (u2 (u2 (u2 fa 1 2 (fa 1 2)) 1 3 (fa 1 3)) 1 4 (fa 1 4)) la) H := hP
        have hD9 : va_D A (WX h g ca (u2 (u2 (u2 (u2 iv 1 8 (iv 1 8)) 8 3 n16) 8 4 n17) 8 5 n18) lv (u2 (u2 (u2 fa 1 2 (fa 1 2)) 1 3 (fa 1 3)) 1 4 (fa 1 4)) la) := hD
        exact W.zret (v := 0) hx hb hr rfl (fun t ht9 hW => ⟨⟨0, ((u2 (u2 (u2 (u2 iv 1 8 (iv 1 8)) 8 3 n16) 8 4 n17) 8 5 n18), lv, (u2 (u2 (u2 fa 1 2 (fa 1 2)) 1 3 (fa 1 3)) 1 4 (fa 1 4)), la), rfl, ⟨(fa 1 2), (fa 1 3), (fa 1 4), (iv 1 8), n16, n17, n18, (hI.1 1 8), (show inb ((-1), 200) n16 from ⟨by omega, by omega⟩), (show inb (0, 5) n17 from ⟨by omega, by omega⟩), (show inb (0, 200) n18 from ⟨by omega, by omega⟩), (show (((0 : Int32).toInt = 0 ∧ 1 ≤ (n17 : Int32).toInt ∧ ((iv 1 8) : Int32).toInt = (iv 1 8).toInt ∧ ∃ b kd v1 : Int, LetR (fun j => ((fa 8 1) j).toInt) ((iv 8 2) : Int32).toInt (iv 8 5).toInt (n17 : Int32).toInt (n16 : Int32).toInt b kd v1 ) ∨ ((0 : Int32).toInt = 1 ∧ (n17 : Int32).toInt = (iv 8 4).toInt ∧ (n16 : Int32).toInt = (iv 8 3).toInt ∧ ((iv 1 8) : Int32).toInt = (iv 1 8).toInt + 1 ∧ LetR (fun j => ((fa 8 1) j).toInt) ((iv 8 2) : Int32).toInt (iv 8 5).toInt 0 0 (n18 : Int32).toInt ((fa 1 2) (12 * ((iv 1 7).toInt).toNat + ((iv 1 8).toInt).toNat)).toInt ((fa 1 3) (12 * ((iv 1 7).toInt).toNat + ((iv 1 8).toInt).toNat)).toInt)) from (by
              obtain ⟨s, e, k1, k2, k3⟩ := xr1_0
              rcases k3 with ⟨k4, -⟩ | ⟨k4, k5, k6, k7, k8⟩
              · exfalso; omega
              · rcases xr10_0 with ⟨n1, -⟩ | ⟨n1, n2, n3, n4⟩
                · exfalso; omega
                · rw [hlo9, hhi9, k8, k5] at n4
                  rcases xr15_0 with ⟨p1, p2, p3⟩ | ⟨p1, -⟩
                  · exact Or.inl ⟨by omega, by omega, by omega, 0, _, _, s, e, k1, k2, Or.inr ⟨by omega, _, _, _, n4, Or.inr ⟨rfl, rfl, p3⟩⟩⟩
                  · exfalso; omega)), (show ∀ j : Nat, (j : Int) < 12 * (iv 1 7).toInt + (iv 1 8).toInt → (fa 1 2) j = (fa 1 2) j ∧ (fa 1 3) j = (fa 1 3) j ∧ (fa 1 4) j = (fa 1 4) j from fun j hj => ⟨rfl, rfl, rfl⟩), ⟨by decide, by decide⟩, rfl⟩, by rw [ht9]; exact hP9, hD9⟩, hS.F ht9⟩) hS.2.2 dX8_readLet_42
  · have fc5 := z_eq (rfl : (r1).toInt = _) (by decide : ((-1) : Int32).toInt = (-1)) c5
    refine lv_iconst (v := 0) hx hb dX8_readLet_12 (by decide) ?_
    have : (0 : Int32).toInt = 0 := (by decide)
    have i_1_8 : 0 ≤ (iv 1 8).toInt ∧ (iv 1 8).toInt ≤ 12 := hI.1 1 8
    have hP9 : va_P (dC, dI) classes (WX h g ca (u2 (u2 (u2 (u2 iv 1 8 (iv 1 8)) 8 3 n2) 8 4 n3) 8 5 n4) lv (u2 (u2 (u2 fa 1 2 (fa 1 2)) 1 3 (fa 1 3)) 1 4 (fa 1 4)) la) H := hP
    have hD9 : va_D A (WX h g ca (u2 (u2 (u2 (u2 iv 1 8 (iv 1 8)) 8 3 n2) 8 4 n3) 8 5 n4) lv (u2 (u2 (u2 fa 1 2 (fa 1 2)) 1 3 (fa 1 3)) 1 4 (fa 1 4)) la) := hD
    exact W.zret (v := 0) hx hb hr rfl (fun t ht9 hW => ⟨⟨0, ((u2 (u2 (u2 (u2 iv 1 8 (iv 1 8)) 8 3 n2) 8 4 n3) 8 5 n4), lv, (u2 (u2 (u2 fa 1 2 (fa 1 2)) 1 3 (fa 1 3)) 1 4 (fa 1 4)), la), rfl, ⟨(fa 1 2), (fa 1 3), (fa 1 4), (iv 1 8), n2, n3, n4, (hI.1 1 8), (show inb ((-1), 200) n2 from ⟨by omega, by omega⟩), (show inb (0, 5) n3 from ⟨by omega, by omega⟩), (show inb (0, 200) n4 from ⟨by omega, by omega⟩), (show (((0 : Int32).toInt = 0 ∧ 1 ≤ (n3 : Int32).toInt ∧ ((iv 1 8) : Int32).toInt = (iv 1 8).toInt ∧ ∃ b kd v1 : Int, LetR (fun j => ((fa 8 1) j).toInt) ((iv 8 2) : Int32).toInt (iv 8 5).toInt (n3 : Int32).toInt (n2 : Int32).toInt b kd v1 ) ∨ ((0 : Int32).toInt = 1 ∧ (n3 : Int32).toInt = (iv 8 4).toInt ∧ (n2 : Int32).toInt = (iv 8 3).toInt ∧ ((iv 1 8) : Int32).toInt = (iv 1 8).toInt + 1 ∧ LetR (fun j => ((fa 8 1) j).toInt) ((iv 8 2) : Int32).toInt (iv 8 5).toInt 0 0 (n4 : Int32).toInt ((fa 1 2) (12 * ((iv 1 7).toInt).toNat + ((iv 1 8).toInt).toNat)).toInt ((fa 1 3) (12 * ((iv 1 7).toInt).toNat + ((iv 1 8).toInt).toNat)).toInt)) from (by
          obtain ⟨s, e, k1, k2, k3⟩ := xr1_0
          rcases k3 with ⟨k4, k5, k6, k7⟩ | ⟨k4, -⟩
          · exact Or.inl ⟨by omega, by omega, by omega, 0, 0, 0, s, e, k1, k2, Or.inl ⟨k5, k6, k7⟩⟩
          · exfalso; omega)), (show ∀ j : Nat, (j : Int) < 12 * (iv 1 7).toInt + (iv 1 8).toInt → (fa 1 2) j = (fa 1 2) j ∧ (fa 1 3) j = (fa 1 3) j ∧ (fa 1 4) j = (fa 1 4) j from fun j hj => ⟨rfl, rfl, rfl⟩), ⟨by decide, by decide⟩, rfl⟩, by rw [ht9]; exact hP9, hD9⟩, hS.F ht9⟩) hS.2.2 dX8_readLet_13
set_option maxHeartbeats 4000000 in
set_option maxRecDepth 100000 in
/-- X8_readTake -/
theorem c_X8_readTake_r (l : Launch) (dC : Nat → ClassId) (dI : Nat → Nat → Nat) (sz : Nat) (ak av : Nat → Nat) (h : Nat) (g : Nat → Nat → Nat) (ca : Nat → Nat → ClassId) (iv : Nat → Nat → Int32) (lv : Nat → Nat → Int64) (fa : Nat → Nat → Nat → Int32) (la : Nat → Nat → Nat → Int64) (hI : IX iv fa) (q_1_7 : 0 ≤ (iv 1 7).toInt ∧ (iv 1 7).toInt ≤ 7) (q_1_8 : 0 ≤ (iv 1 8).toInt ∧ (iv 1 8).toInt ≤ 11) : Met l yX8_readTake (wc yX8_readTake cX8_readTake 2 (some .boolean)) ({ frames := 6, cells := 0, slots := 0, locals := 135 } : Room) (pWZ ak av (dC, dI) classes (WX h g ca iv lv fa la) (TX ca) sz [.ref (g 11 4)]) (va_Qi (fun r (u : SS) => ∃ (na_1_2 : Nat → Int32) (na_1_3 : Nat → Int32) (na_1_4 : Nat → Int32) (ni_1_8 : Int32) (ni_8_3 : Int32) (ni_8_4 : Int32) (ni_8_5 : Int32), inb (bI 1 8) ni_1_8 ∧ inb (bI 8 3) ni_8_3 ∧ inb (bI 8 4) ni_8_4 ∧ inb (bI 8 5) ni_8_5 ∧ (((r.toInt = 0 ∧ 1 ≤ (ni_8_4).toInt ∧ (ni_1_8).toInt = (iv 1 8).toInt ∧ ∃ b kd v1 : Int, TakR (fun j => ((fa 8 1) j).toInt) (iv 8 2).toInt (iv 8 5).toInt (ni_8_4).toInt (ni_8_3).toInt b kd v1 ) ∨ (r.toInt = 1 ∧ (ni_8_4).toInt = (iv 8 4).toInt ∧ (ni_8_3).toInt = (iv 8 3).toInt ∧ (ni_1_8).toInt = (iv 1 8).toInt + 1 ∧ TakR (fun j => ((fa 8 1) j).toInt) (iv 8 2).toInt (iv 8 5).toInt 0 0 (ni_8_5).toInt (na_1_2 (12 * ((iv 1 7).toInt).toNat + ((iv 1 8).toInt).toNat)).toInt (na_1_3 (12 * ((iv 1 7).toInt).toNat + ((iv 1 8).toInt).toNat)).toInt))) ∧ (∀ j : Nat, (j : Int) < 12 * (iv 1 7).toInt + (iv 1 8).toInt → na_1_2 j = (fa 1 2) j ∧ na_1_3 j = (fa 1 3) j ∧ na_1_4 j = (fa 1 4) j) ∧ (0 ≤ r.toInt ∧ r.toInt ≤ 1) ∧ u = ((u2 (u2 (u2 (u2 iv 1 8 ni_1_8) 8 3 ni_8_3) 8 4 ni_8_4) 8 5 ni_8_5), lv, (u2 (u2 (u2 fa 1 2 na_1_2) 1 3 na_1_3) 1 4 na_1_4), la)) (bX (dC, dI) h g ca (va_A (WX h g ca iv lv fa la) sz)) (va_A (WX h g ca iv lv fa la) sz)) 0 0 (va_A (WX h g ca iv lv fa la) sz) := by
  refine Met.ofW (cc := cX8_readTake) (maxL := 2) (ret := (some .boolean)) (by decide) rfl ?_
  intro p e s m args below meth c s₁ B hml hv
  obtain ⟨rfl, hsz, hP, hK, hD0, hZ⟩ := hv
  have hx := B.exec
  have hb := B.bytes
  have hr := B.returns
  have ht := tb_tl (atoms_spec (ws := wc yX8_readTake cX8_readTake 2 (some .boolean)) B.pre)
  have hown : s.vm.findClass RX8 = some m.cls := findClass_of_methodNamed B.named
  have hlocks := B.notSynchronized
  subst hsz
  have hD := hD0.self (sz := s.heap.size)
  generalize hAe : va_A (WX h g ca iv lv fa la) s.heap.size = A at hD hZ ⊢
  have hA : ∀ q : Nat, s.heap.size ≤ q → A q := fun q h => by rw [← hAe]; exact Or.inr h
  have hS : va_S A s.heap s.heap [] := va_S.rf
  have hl := lv_entry [.ref (g 11 4)] (n := 2) (Nat.le_of_ble_eq_true rfl)
  rw [lg_entry_eq]
  generalize (lg_sl [.ref (g 11 4)] ++ List.replicate (2 - (lg_sl [.ref (g 11 4)]).length) Slot.unset).toArray = ls at hl ⊢
  have hl : lv_has ls 2 [(0, .ref (g 11 4))] := hl
  refine lv_aload_n hx hb dX8_readTake_0 rfl (lv_at hl 0 rfl) ?_
  refine va_ldcS hx hb hown hZ.2.2.2.1 dX8_readTake_1 ?_
  have i_8_5 : 0 ≤ (iv 8 5).toInt ∧ (iv 8 5).toInt ≤ 200 := hI.1 8 5
  have i_8_4 : 0 ≤ (iv 8 4).toInt ∧ (iv 8 4).toInt ≤ 5 := hI.1 8 4
  have i_8_3 : (-1) ≤ (iv 8 3).toInt ∧ (iv 8 3).toInt ≤ 200 := hI.1 8 3
  have hFc := free_all hD hS hA
  refine va_calli (va_runV (As := [.ref (ak 2)]) (rest := []) ⟨hx, hb, hml, hown, ht⟩ (c_X8_readOneOf_r2 l dC dI s.heap.size ak av h g ca iv lv fa la hI) (kV 1 ht m_697 m_699 m_18 m_82 m_700 rfl rfl hd_X8_readOneOf_v ⟨Nat.le_of_ble_eq_true rfl, Nat.le_of_ble_eq_true rfl⟩) (vWZ hP hK hD ((hZ.kept hS.2.1).narrow (free_all hD hS hA)) (rX_8 hK hP)) rfl rfl hl.1 rfl (lv_room (Nat.le_of_ble_eq_true rfl)) dX8_readTake_3 ⟨Nat.le_of_ble_eq_true rfl, Nat.le_of_ble_eq_true rfl⟩) hS (fun q _ h => hFc q h) hFc (fun r1 u t H1 locs ht9 hvm hr1 hB hz1 hk1 hS => ?_)
  obtain ⟨n2, n3, n4, hn2, hn3, hn4, xr1_0, hr1, rfl⟩ := hr1
  have hn2 : (-1) ≤ n2.toInt ∧ n2.toInt ≤ 200 := hn2
  have hn3 : 0 ≤ n3.toInt ∧ n3.toInt ≤ 5 := hn3
  have hn4 : 0 ≤ n4.toInt ∧ n4.toInt ≤ 200 := hn4
  obtain ⟨hP, hD⟩ := hB
  rw [ht9] at hP
  generalize H1 = H at hP hS ⊢
  have hP : va_P (dC, dI) classes (WX h g ca (u2 (u2 (u2 iv 8 3 n2) 8 4 n3) 8 5 n4) lv fa la) H := hP
  have hD : va_D A (WX h g ca (u2 (u2 (u2 iv 8 3 n2) 8 4 n3) 8 5 n4) lv fa la) := (show va_D _ (WX h g ca (u2 (u2 (u2 iv 8 3 n2) 8 4 n3) 8 5 n4) lv fa la) from hD).weaken (fun _ _ _ h => hFc _ h)
  have i_8_2 : 0 ≤ (iv 8 2).toInt ∧ (iv 8 2).toInt ≤ 200 := hI.1 8 2
  have xr1_0 : ∃ s e : Int, Sk (fun j => ((fa 8 1) j).toInt) ((iv 8 2) : Int32).toInt ((iv 8 5) : Int32).toInt s ∧ Rn (fun j => ((fa 8 1) j).toInt) ((iv 8 2) : Int32).toInt 97 122 s e ∧ (((r1 : Int32).toInt = -1 ∧ kwW (fun j => ((fa 8 1) j).toInt) s e = -1 ∧ (n3 : Int32).toInt = 1 ∧ (n2 : Int32).toInt = s) ∨ (0 ≤ (r1 : Int32).toInt ∧ (r1 : Int32).toInt = kwW (fun j => ((fa 8 1) j).toInt) s e ∧ (n3 : Int32).toInt = ((iv 8 4) : Int32).toInt ∧ (n2 : Int32).toInt = ((iv 8 3) : Int32).toInt ∧ (n4 : Int32).toInt = e)) := xr1_0
  refine lv_istore_n (lv' := [(1, .int r1), (0, .ref (g 11 4))]) hx hb dX8_readTake_6 rfl hl (by decide) rfl (fun ls hl => ?_)
  refine lv_iload_n hx hb dX8_readTake_7 rfl (lv_at hl 0 rfl) ?_
  refine lv_iconst (v := (-1)) hx hb dX8_readTake_8 (by decide) ?_
  refine lv_icmp_eq (tgt := 19) hx hb dX8_readTake_9 (by decide) (fun c5 => ?_) (fun c5 => ?_)
  · have fc5 := z_eq (rfl : (r1).toInt = _) (by decide : ((-1) : Int32).toInt = (-1)) c5
    refine lv_iconst (v := 0) hx hb dX8_readTake_19 (by decide) ?_
    have : (0 : Int32).toInt = 0 := (by decide)
    have i_1_8 : 0 ≤ (iv 1 8).toInt ∧ (iv 1 8).toInt ≤ 12 := hI.1 1 8
    have hP9 : va_P (dC, dI) classes (WX h g ca (u2 (u2 (u2 (u2 iv 1 8 (iv 1 8)) 8 3 n2) 8 4 n3) 8 5 n4) lv (u2 (u2 (u2 fa 1 2 (fa 1 2)) 1 3 (fa 1 3)) 1 4 (fa 1 4)) la) H := hP
    have hD9 : va_D A (WX h g ca (u2 (u2 (u2 (u2 iv 1 8 (iv 1 8)) 8 3 n2) 8 4 n3) 8 5 n4) lv (u2 (u2 (u2 fa 1 2 (fa 1 2)) 1 3 (fa 1 3)) 1 4 (fa 1 4)) la) := hD
    exact W.zret (v := 0) hx hb hr rfl (fun t ht9 hW => ⟨⟨0, ((u2 (u2 (u2 (u2 iv 1 8 (iv 1 8)) 8 3 n2) 8 4 n3) 8 5 n4), lv, (u2 (u2 (u2 fa 1 2 (fa 1 2)) 1 3 (fa 1 3)) 1 4 (fa 1 4)), la), rfl, ⟨(fa 1 2), (fa 1 3), (fa 1 4), (iv 1 8), n2, n3, n4, (hI.1 1 8), (show inb ((-1), 200) n2 from ⟨by omega, by omega⟩), (show inb (0, 5) n3 from ⟨by omega, by omega⟩), (show inb (0, 200) n4 from ⟨by omega, by omega⟩), (show (((0 : Int32).toInt = 0 ∧ 1 ≤ (n3 : Int32).toInt ∧ ((iv 1 8) : Int32).toInt = (iv 1 8).toInt ∧ ∃ b kd v1 : Int, TakR (fun j => ((fa 8 1) j).toInt) ((iv 8 2) : Int32).toInt (iv 8 5).toInt (n3 : Int32).toInt (n2 : Int32).toInt b kd v1 ) ∨ ((0 : Int32).toInt = 1 ∧ (n3 : Int32).toInt = (iv 8 4).toInt ∧ (n2 : Int32).toInt = (iv 8 3).toInt ∧ ((iv 1 8) : Int32).toInt = (iv 1 8).toInt + 1 ∧ TakR (fun j => ((fa 8 1) j).toInt) ((iv 8 2) : Int32).toInt (iv 8 5).toInt 0 0 (n4 : Int32).toInt ((fa 1 2) (12 * ((iv 1 7).toInt).toNat + ((iv 1 8).toInt).toNat)).toInt ((fa 1 3) (12 * ((iv 1 7).toInt).toNat + ((iv 1 8).toInt).toNat)).toInt)) from (by
          obtain ⟨s, e, k1, k2, k3⟩ := xr1_0
          rcases k3 with ⟨k4, k5, k6, k7⟩ | ⟨k4, -⟩
          · exact Or.inl ⟨by omega, by omega, by omega, 0, 0, 0, s, e, k1, k2, Or.inl ⟨k5, k6, k7⟩⟩
          · exfalso; omega)), (show ∀ j : Nat, (j : Int) < 12 * (iv 1 7).toInt + (iv 1 8).toInt → (fa 1 2) j = (fa 1 2) j ∧ (fa 1 3) j = (fa 1 3) j ∧ (fa 1 4) j = (fa 1 4) j from fun j hj => ⟨rfl, rfl, rfl⟩), ⟨by decide, by decide⟩, rfl⟩, by rw [ht9]; exact hP9, hD9⟩, hS.F ht9⟩) hS.2.2 dX8_readTake_20
  · have fc5 := z_ne (rfl : (r1).toInt = _) (by decide : ((-1) : Int32).toInt = (-1)) c5
    refine lv_aload_n hx hb dX8_readTake_12 rfl (lv_at hl 1 rfl) ?_
    have hFc := free_all hD hS hA
    refine va_calli (va_runV (As := []) (rest := []) ⟨hx, hb, hml, hown, ht⟩ (c_X8_readStop_r l dC dI H.size h g ca (u2 (u2 (u2 iv 8 3 n2) 8 4 n3) 8 5 n4) lv fa la (IX_i (c := 8) (k := 5) (IX_i (c := 8) (k := 4) (IX_i (c := 8) (k := 3) hI (show inb ((-1), 200) n2 from ⟨by omega, by omega⟩)) (show inb (0, 5) n3 from ⟨by omega, by omega⟩)) (show inb (0, 200) n4 from ⟨by omega, by omega⟩))) (kV 0 ht m_775 m_777 m_24 m_82 m_778 rfl rfl hd_X8_readStop_v ⟨Nat.le_of_ble_eq_true rfl, Nat.le_of_ble_eq_true rfl⟩) (vW hP hK hD (rX_8 hK hP)) rfl rfl hl.1 rfl (lv_room (Nat.le_of_ble_eq_true rfl)) dX8_readTake_13 ⟨Nat.le_of_ble_eq_true rfl, Nat.le_of_ble_eq_true rfl⟩) hS (fun q _ h => hFc q h) hFc (fun r6 u t H1 locs ht9 hvm hr6 hB hz1 hk1 hS => ?_)
    obtain ⟨n7, n8, n9, hn7, hn8, hn9, xr6_0, hr6, rfl⟩ := hr6
    have hn7 : (-1) ≤ n7.toInt ∧ n7.toInt ≤ 200 := hn7
    have hn8 : 0 ≤ n8.toInt ∧ n8.toInt ≤ 5 := hn8
    have hn9 : 0 ≤ n9.toInt ∧ n9.toInt ≤ 200 := hn9
    obtain ⟨hP, hD⟩ := hB
    rw [ht9] at hP
    generalize H1 = H at hP hS ⊢
    have hP : va_P (dC, dI) classes (WX h g ca (u2 (u2 (u2 iv 8 3 n7) 8 4 n8) 8 5 n9) lv fa la) H := hP
    have hD : va_D A (WX h g ca (u2 (u2 (u2 iv 8 3 n7) 8 4 n8) 8 5 n9) lv fa la) := (show va_D _ (WX h g ca (u2 (u2 (u2 iv 8 3 n7) 8 4 n8) 8 5 n9) lv fa la) from hD).weaken (fun _ _ _ h => hFc _ h)
    have xr6_0 : (((r6 : Int32).toInt = 0 ∧ 1 ≤ (n8 : Int32).toInt ∧ StpR (fun j => ((fa 8 1) j).toInt) ((iv 8 2) : Int32).toInt (n4 : Int32).toInt (n8 : Int32).toInt (n7 : Int32).toInt 0) ∨ ((r6 : Int32).toInt = 1 ∧ (n8 : Int32).toInt = (n3 : Int32).toInt ∧ (n7 : Int32).toInt = (n2 : Int32).toInt ∧ StpR (fun j => ((fa 8 1) j).toInt) ((iv 8 2) : Int32).toInt (n4 : Int32).toInt 0 0 (n9 : Int32).toInt)) := xr6_0
    refine lv_if_ne (tgt := 21) hx hb dX8_readTake_16 (by decide) (fun c10 => ?_) (fun c10 => ?_)
    · have fc10 := z_ne (rfl : (r6).toInt = _) (by decide : (0 : Int32).toInt = 0) c10
      refine lv_aload_n hx hb dX8_readTake_21 rfl (lv_at hl 1 rfl) ?_
      refine gX_8_0 hx hb ht hown hK hP m_228 dX8_readTake_22 ?_
      refine lv_iconst (v := 5) hx hb dX8_readTake_25 (by decide) ?_
      refine lv_iload_n hx hb dX8_readTake_26 rfl (lv_at hl 0 rfl) ?_
      refine lv_iconst (v := 0) hx hb dX8_readTake_27 (by decide) ?_
      have i_1_7 : 0 ≤ (iv 1 7).toInt ∧ (iv 1 7).toInt ≤ 8 := hI.1 1 7
      have i_1_8 : 0 ≤ (iv 1 8).toInt ∧ (iv 1 8).toInt ≤ 12 := hI.1 1 8
      have hFc := free_all hD hS hA
      refine va_callv (va_runV (As := [.int 5, .int r1, .int 0]) (rest := []) ⟨hx, hb, hml, hown, ht⟩ (c_X1_draft_r l dC dI H.size h g ca (u2 (u2 (u2 iv 8 3 n7) 8 4 n8) 8 5 n9) lv fa la (IX_i (c := 8) (k := 5) (IX_i (c := 8) (k := 4) (IX_i (c := 8) (k := 3) hI (show inb ((-1), 200) n7 from ⟨by omega, by omega⟩)) (show inb (0, 5) n8 from ⟨by omega, by omega⟩)) (show inb (0, 200) n9 from ⟨by omega, by omega⟩)) 5 r1 0 (show 0 ≤ ((iv 1 7) : Int32).toInt ∧ ((iv 1 7) : Int32).toInt ≤ 7 from ⟨by omega, by omega⟩) (show 0 ≤ ((iv 1 8) : Int32).toInt ∧ ((iv 1 8) : Int32).toInt ≤ 11 from ⟨by omega, by omega⟩)) (kV 3 ht m_779 m_780 m_781 m_81 m_782 rfl rfl hd_X1_draft_v ⟨Nat.le_of_ble_eq_true rfl, Nat.le_of_ble_eq_true rfl⟩) (vW hP hK hD (rX_1 hK hP)) rfl rfl hl.1 rfl (lv_room (Nat.le_of_ble_eq_true rfl)) dX8_readTake_28 ⟨Nat.le_of_ble_eq_true rfl, Nat.le_of_ble_eq_true rfl⟩) hS (fun q _ h => hFc q h) hFc (fun u t H1 locs ht9 hvm hr11 hB hz1 hk1 hS => ?_)
      obtain ⟨n12, n13, n14, n15, hn15, dn15, xr11_0, xr11_1, xr11_2, xr11_3, xr11_4, rfl⟩ := hr11
      have hn12 : ∀ j, inb (bA 1 2 j) (n12 j) := fun j => full_i _
      have hn13 : ∀ j, inb (bA 1 3 j) (n13 j) := fun j => full_i _
      have hn14 : ∀ j, inb (bA 1 4 j) (n14 j) := fun j => full_i _
      have dn15 : n15.toInt = ((iv 1 8) : Int32).toInt + 1 := dn15
      have hn15 : 0 ≤ n15.toInt ∧ n15.toInt ≤ 12 := hn15
      obtain ⟨hP, hD⟩ := hB
      rw [ht9] at hP
      generalize H1 = H at hP hS ⊢
      have hP : va_P (dC, dI) classes (WX h g ca (u2 (u2 (u2 (u2 iv 8 3 n7) 8 4 n8) 8 5 n9) 1 8 n15) lv (u2 (u2 (u2 fa 1 2 n12) 1 3 n13) 1 4 n14) la) H := hP
      have hD : va_D A (WX h g ca (u2 (u2 (u2 (u2 iv 8 3 n7) 8 4 n8) 8 5 n9) 1 8 n15) lv (u2 (u2 (u2 fa 1 2 n12) 1 3 n13) 1 4 n14) la) := (show va_D _ (WX h g ca (u2 (u2 (u2 (u2 iv 8 3 n7) 8 4 n8) 8 5 n9) 1 8 n15) lv (u2 (u2 (u2 fa 1 2 n12) 1 3 n13) 1 4 n14) la) from hD).weaken (fun _ _ _ h => hFc _ h)
      have xr11_0 : ∀ j : Nat, (j : Int) < 12 * ((iv 1 7) : Int32).toInt + ((iv 1 8) : Int32).toInt → n12 j = (fa 1 2) j ∧ n13 j = (fa 1 3) j ∧ n14 j = (fa 1 4) j := xr11_0
      have xr11_1 : n12 (12 * (((iv 1 7) : Int32).toInt).toNat + (((iv 1 8) : Int32).toInt).toNat) = (5 : Int32) := xr11_1
      have xr11_2 : n13 (12 * (((iv 1 7) : Int32).toInt).toNat + (((iv 1 8) : Int32).toInt).toNat) = (r1 : Int32) := xr11_2
      have xr11_3 : n14 (12 * (((iv 1 7) : Int32).toInt).toNat + (((iv 1 8) : Int32).toInt).toNat) = (0 : Int32) := xr11_3
      have xr11_4 : (n15 : Int32).toInt = ((iv 1 8) : Int32).toInt + 1 := xr11_4
      refine lv_iconst (v := 1) hx hb dX8_readTake_31 (by decide) ?_
      have : (1 : Int32).toInt = 1 := (by decide)
      have hP9 : va_P (dC, dI) classes (WX h g ca (u2 (u2 (u2 (u2 iv 1 8 n15) 8 3 n7) 8 4 n8) 8 5 n9) lv (u2 (u2 (u2 fa 1 2 n12) 1 3 n13) 1 4 n14) la) H := hP
      have hD9 : va_D A (WX h g ca (u2 (u2 (u2 (u2 iv 1 8 n15) 8 3 n7) 8 4 n8) 8 5 n9) lv (u2 (u2 (u2 fa 1 2 n12) 1 3 n13) 1 4 n14) la) := hD
      exact W.zret (v := 1) hx hb hr rfl (fun t ht9 hW => ⟨⟨1, ((u2 (u2 (u2 (u2 iv 1 8 n15) 8 3 n7) 8 4 n8) 8 5 n9), lv, (u2 (u2 (u2 fa 1 2 n12) 1 3 n13) 1 4 n14), la), rfl, ⟨n12, n13, n14, n15, n7, n8, n9, (show inb (0, 12) n15 from ⟨by omega, by omega⟩), (show inb ((-1), 200) n7 from ⟨by omega, by omega⟩), (show inb (0, 5) n8 from ⟨by omega, by omega⟩), (show inb (0, 200) n9 from ⟨by omega, by omega⟩), (show (((1 : Int32).toInt = 0 ∧ 1 ≤ (n8 : Int32).toInt ∧ (n15 : Int32).toInt = (iv 1 8).toInt ∧ ∃ b kd v1 : Int, TakR (fun j => ((fa 8 1) j).toInt) ((iv 8 2) : Int32).toInt (iv 8 5).toInt (n8 : Int32).toInt (n7 : Int32).toInt b kd v1 ) ∨ ((1 : Int32).toInt = 1 ∧ (n8 : Int32).toInt = (iv 8 4).toInt ∧ (n7 : Int32).toInt = (iv 8 3).toInt ∧ (n15 : Int32).toInt = (iv 1 8).toInt + 1 ∧ TakR (fun j => ((fa 8 1) j).toInt) ((iv 8 2) : Int32).toInt (iv 8 5).toInt 0 0 (n9 : Int32).toInt (n12 (12 * ((iv 1 7).toInt).toNat + ((iv 1 8).toInt).toNat)).toInt (n13 (12 * ((iv 1 7).toInt).toNat + ((iv 1 8).toInt).toNat)).toInt)) from (by
            obtain ⟨s, e, k1, k2, k3⟩ := xr1_0
            rcases k3 with ⟨k4, -⟩ | ⟨k4, k5, k6, k7, k8⟩
            · exfalso; omega
            · rcases xr6_0 with ⟨p1, -⟩ | ⟨p1, p2, p3, p4⟩
              · exfalso; omega
              · rw [k8] at p4; rw [xr11_1, xr11_2]; exact Or.inr ⟨by omega, by omega, by omega, by omega, s, e, k1, k2, Or.inr ⟨by omega, by decide, by omega, p4⟩⟩)), (show ∀ j : Nat, (j : Int) < 12 * (iv 1 7).toInt + (iv 1 8).toInt → n12 j = (fa 1 2) j ∧ n13 j = (fa 1 3) j ∧ n14 j = (fa 1 4) j from xr11_0), ⟨by decide, by decide⟩, rfl⟩, by rw [ht9]; exact hP9, hD9⟩, hS.F ht9⟩) hS.2.2 dX8_readTake_32
    · have fc10 := z_eq (rfl : (r6).toInt = _) (by decide : (0 : Int32).toInt = 0) c10
      refine lv_iconst (v := 0) hx hb dX8_readTake_19 (by decide) ?_
      have : (0 : Int32).toInt = 0 := (by decide)
      have i_1_8 : 0 ≤ (iv 1 8).toInt ∧ (iv 1 8).toInt ≤ 12 := hI.1 1 8
      have hP9 : va_P (dC, dI) classes (WX h g ca (u2 (u2 (u2 (u2 iv 1 8 (iv 1 8)) 8 3 n7) 8 4 n8) 8 5 n9) lv (u2 (u2 (u2 fa 1 2 (fa 1 2)) 1 3 (fa 1 3)) 1 4 (fa 1 4)) la) H := hP
      have hD9 : va_D A (WX h g ca (u2 (u2 (u2 (u2 iv 1 8 (iv 1 8)) 8 3 n7) 8 4 n8) 8 5 n9) lv (u2 (u2 (u2 fa 1 2 (fa 1 2)) 1 3 (fa 1 3)) 1 4 (fa 1 4)) la) := hD
      exact W.zret (v := 0) hx hb hr rfl (fun t ht9 hW => ⟨⟨0, ((u2 (u2 (u2 (u2 iv 1 8 (iv 1 8)) 8 3 n7) 8 4 n8) 8 5 n9), lv, (u2 (u2 (u2 fa 1 2 (fa 1 2)) 1 3 (fa 1 3)) 1 4 (fa 1 4)), la), rfl, ⟨(fa 1 2), (fa 1 3), (fa 1 4), (iv 1 8), n7, n8, n9, (hI.1 1 8), (show inb ((-1), 200) n7 from ⟨by omega, by omega⟩), (show inb (0, 5) n8 from ⟨by omega, by omega⟩), (show inb (0, 200) n9 from ⟨by omega, by omega⟩), (show (((0 : Int32).toInt = 0 ∧ 1 ≤ (n8 : Int32).toInt ∧ ((iv 1 8) : Int32).toInt = (iv 1 8).toInt ∧ ∃ b kd v1 : Int, TakR (fun j => ((fa 8 1) j).toInt) ((iv 8 2) : Int32).toInt (iv 8 5).toInt (n8 : Int32).toInt (n7 : Int32).toInt b kd v1 ) ∨ ((0 : Int32).toInt = 1 ∧ (n8 : Int32).toInt = (iv 8 4).toInt ∧ (n7 : Int32).toInt = (iv 8 3).toInt ∧ ((iv 1 8) : Int32).toInt = (iv 1 8).toInt + 1 ∧ TakR (fun j => ((fa 8 1) j).toInt) ((iv 8 2) : Int32).toInt (iv 8 5).toInt 0 0 (n9 : Int32).toInt ((fa 1 2) (12 * ((iv 1 7).toInt).toNat + ((iv 1 8).toInt).toNat)).toInt ((fa 1 3) (12 * ((iv 1 7).toInt).toNat + ((iv 1 8).toInt).toNat)).toInt)) from (by
            obtain ⟨s, e, k1, k2, k3⟩ := xr1_0
            rcases k3 with ⟨k4, -⟩ | ⟨k4, k5, k6, k7, k8⟩
            · exfalso; omega
            · rcases xr6_0 with ⟨p1, p2, p3⟩ | ⟨p1, -⟩
              · rw [k8] at p3; exact Or.inl ⟨by omega, by omega, by omega, 0, _, _, s, e, k1, k2, Or.inr ⟨by omega, rfl, rfl, p3⟩⟩
              · exfalso; omega)), (show ∀ j : Nat, (j : Int) < 12 * (iv 1 7).toInt + (iv 1 8).toInt → (fa 1 2) j = (fa 1 2) j ∧ (fa 1 3) j = (fa 1 3) j ∧ (fa 1 4) j = (fa 1 4) j from fun j hj => ⟨rfl, rfl, rfl⟩), ⟨by decide, by decide⟩, rfl⟩, by rw [ht9]; exact hP9, hD9⟩, hS.F ht9⟩) hS.2.2 dX8_readTake_20
set_option maxHeartbeats 4000000 in
set_option maxRecDepth 100000 in
/-- X8_readStrike -/
theorem c_X8_readStrike_r (l : Launch) (dC : Nat → ClassId) (dI : Nat → Nat → Nat) (sz : Nat) (ak av : Nat → Nat) (h : Nat) (g : Nat → Nat → Nat) (ca : Nat → Nat → ClassId) (iv : Nat → Nat → Int32) (lv : Nat → Nat → Int64) (fa : Nat → Nat → Nat → Int32) (la : Nat → Nat → Nat → Int64) (hI : IX iv fa) (q_1_7 : 0 ≤ (iv 1 7).toInt ∧ (iv 1 7).toInt ≤ 7) (q_1_8 : 0 ≤ (iv 1 8).toInt ∧ (iv 1 8).toInt ≤ 11) : Met l yX8_readStrike (wc yX8_readStrike cX8_readStrike 3 (some .boolean)) ({ frames := 2, cells := 0, slots := 0, locals := 49 } : Room) (pWZ ak av (dC, dI) classes (WX h g ca iv lv fa la) (TX ca) sz [.ref (g 11 4)]) (va_Qi (fun r (u : SS) => ∃ (na_1_2 : Nat → Int32) (na_1_3 : Nat → Int32) (na_1_4 : Nat → Int32) (ni_1_8 : Int32) (ni_8_3 : Int32) (ni_8_4 : Int32) (ni_8_5 : Int32), inb (bI 1 8) ni_1_8 ∧ inb (bI 8 3) ni_8_3 ∧ inb (bI 8 4) ni_8_4 ∧ inb (bI 8 5) ni_8_5 ∧ (((r.toInt = 0 ∧ 1 ≤ (ni_8_4).toInt ∧ (ni_1_8).toInt = (iv 1 8).toInt ∧ ∃ b kd v1 : Int, StrR (fun j => ((fa 8 1) j).toInt) (iv 8 2).toInt (iv 1 7).toInt (iv 8 5).toInt (ni_8_4).toInt (ni_8_3).toInt b kd v1 ) ∨ (r.toInt = 1 ∧ (ni_8_4).toInt = (iv 8 4).toInt ∧ (ni_8_3).toInt = (iv 8 3).toInt ∧ (ni_1_8).toInt = (iv 1 8).toInt + 1 ∧ StrR (fun j => ((fa 8 1) j).toInt) (iv 8 2).toInt (iv 1 7).toInt (iv 8 5).toInt 0 0 (ni_8_5).toInt (na_1_2 (12 * ((iv 1 7).toInt).toNat + ((iv 1 8).toInt).toNat)).toInt (na_1_3 (12 * ((iv 1 7).toInt).toNat + ((iv 1 8).toInt).toNat)).toInt))) ∧ (∀ j : Nat, (j : Int) < 12 * (iv 1 7).toInt + (iv 1 8).toInt → na_1_2 j = (fa 1 2) j ∧ na_1_3 j = (fa 1 3) j ∧ na_1_4 j = (fa 1 4) j) ∧ (0 ≤ r.toInt ∧ r.toInt ≤ 1) ∧ u = ((u2 (u2 (u2 (u2 iv 1 8 ni_1_8) 8 3 ni_8_3) 8 4 ni_8_4) 8 5 ni_8_5), lv, (u2 (u2 (u2 fa 1 2 na_1_2) 1 3 na_1_3) 1 4 na_1_4), la)) (bX (dC, dI) h g ca (va_A (WX h g ca iv lv fa la) sz)) (va_A (WX h g ca iv lv fa la) sz)) 0 0 (va_A (WX h g ca iv lv fa la) sz) := by
  refine Met.ofW (cc := cX8_readStrike) (maxL := 3) (ret := (some .boolean)) (by decide) rfl ?_
  intro p e s m args below meth c s₁ B hml hv
  obtain ⟨rfl, hsz, hP, hK, hD0, hZ⟩ := hv
  have hx := B.exec
  have hb := B.bytes
  have hr := B.returns
  have ht := tb_tl (atoms_spec (ws := wc yX8_readStrike cX8_readStrike 3 (some .boolean)) B.pre)
  have hown : s.vm.findClass RX8 = some m.cls := findClass_of_methodNamed B.named
  have hlocks := B.notSynchronized
  subst hsz
  have hD := hD0.self (sz := s.heap.size)
  generalize hAe : va_A (WX h g ca iv lv fa la) s.heap.size = A at hD hZ ⊢
  have hA : ∀ q : Nat, s.heap.size ≤ q → A q := fun q h => by rw [← hAe]; exact Or.inr h
  have hS : va_S A s.heap s.heap [] := va_S.rf
  have hl := lv_entry [.ref (g 11 4)] (n := 3) (Nat.le_of_ble_eq_true rfl)
  rw [lg_entry_eq]
  generalize (lg_sl [.ref (g 11 4)] ++ List.replicate (3 - (lg_sl [.ref (g 11 4)]).length) Slot.unset).toArray = ls at hl ⊢
  have hl : lv_has ls 3 [(0, .ref (g 11 4))] := hl
  refine lv_aload_n hx hb dX8_readStrike_0 rfl (lv_at hl 0 rfl) ?_
  have i_8_5 : 0 ≤ (iv 8 5).toInt ∧ (iv 8 5).toInt ≤ 200 := hI.1 8 5
  have hFc := free_all hD hS hA
  refine va_calli (va_runV (As := []) (rest := []) ⟨hx, hb, hml, hown, ht⟩ (c_X8_skipBlanks_r l dC dI s.heap.size h g ca iv lv fa la hI) (kV 0 ht m_688 m_690 m_16 m_82 m_691 rfl rfl hd_X8_skipBlanks_v ⟨Nat.le_of_ble_eq_true rfl, Nat.le_of_ble_eq_true rfl⟩) (vW hP hK hD (rX_8 hK hP)) rfl rfl hl.1 rfl (lv_room (Nat.le_of_ble_eq_true rfl)) dX8_readStrike_1 ⟨Nat.le_of_ble_eq_true rfl, Nat.le_of_ble_eq_true rfl⟩) hS (fun q _ h => hFc q h) hFc (fun r1 u t H1 locs ht9 hvm hr1 hB hz1 hk1 hS => ?_)
  obtain ⟨n2, hn2, xr1_0, xr1_1, hr1, rfl⟩ := hr1
  have hn2 : 0 ≤ n2.toInt ∧ n2.toInt ≤ 200 := hn2
  obtain ⟨hP, hD⟩ := hB
  rw [ht9] at hP
  generalize H1 = H at hP hS ⊢
  have hP : va_P (dC, dI) classes (WX h g ca (u2 iv 8 5 n2) lv fa la) H := hP
  have hD : va_D A (WX h g ca (u2 iv 8 5 n2) lv fa la) := (show va_D _ (WX h g ca (u2 iv 8 5 n2) lv fa la) from hD).weaken (fun _ _ _ h => hFc _ h)
  have i_8_2 : 0 ≤ (iv 8 2).toInt ∧ (iv 8 2).toInt ≤ 200 := hI.1 8 2
  have xr1_0 : Sk (fun j => ((fa 8 1) j).toInt) ((iv 8 2) : Int32).toInt ((iv 8 5) : Int32).toInt (n2 : Int32).toInt := xr1_0
  have xr1_1 : (((r1 : Int32).toInt = 1 ∧ (n2 : Int32).toInt < ((iv 8 2) : Int32).toInt) ∨ ((r1 : Int32).toInt = 0 ∧ ((iv 8 2) : Int32).toInt ≤ (n2 : Int32).toInt)) := xr1_1
  refine lv_pop hx hb dX8_readStrike_4 rfl ?_
  refine lv_aload_n hx hb dX8_readStrike_5 rfl (lv_at hl 0 rfl) ?_
  refine gX_8_5 hx hb ht hown hK hP m_235 (v := n2) rfl dX8_readStrike_6 ?_
  refine lv_istore_n (lv' := [(1, .int n2), (0, .ref (g 11 4))]) hx hb dX8_readStrike_9 rfl hl (by decide) rfl (fun ls hl => ?_)
  refine lv_aload_n hx hb dX8_readStrike_10 rfl (lv_at hl 1 rfl) ?_
  refine lv_iconst (v := 0) hx hb dX8_readStrike_11 (by decide) ?_
  refine lv_sipush (v := 9999) hx hb dX8_readStrike_12 (by decide) ?_
  have : (0 : Int32).toInt = 0 := (by decide)
  have i_8_4 : 0 ≤ (iv 8 4).toInt ∧ (iv 8 4).toInt ≤ 5 := hI.1 8 4
  have i_8_3 : (-1) ≤ (iv 8 3).toInt ∧ (iv 8 3).toInt ≤ 200 := hI.1 8 3
  have hFc := free_all hD hS hA
  refine va_calli (va_runV (As := [.int 0, .int 9999]) (rest := []) ⟨hx, hb, hml, hown, ht⟩ (c_X8_readNumber_r l dC dI H.size ak av h g ca (u2 iv 8 5 n2) lv fa la (IX_i (c := 8) (k := 5) hI (show inb (0, 200) n2 from ⟨by omega, by omega⟩)) 0 9999 (show 0 ≤ (0 : Int32).toInt from by omega)) (kV 2 ht m_770 m_772 m_23 m_82 m_773 rfl rfl hd_X8_readNumber_v ⟨Nat.le_of_ble_eq_true rfl, Nat.le_of_ble_eq_true rfl⟩) (vWZ hP hK hD ((hZ.kept hS.2.1).narrow (free_all hD hS hA)) (rX_8 hK hP)) rfl rfl hl.1 rfl (lv_room (Nat.le_of_ble_eq_true rfl)) dX8_readStrike_15 ⟨Nat.le_of_ble_eq_true rfl, Nat.le_of_ble_eq_true rfl⟩) hS (fun q _ h => hFc q h) hFc (fun r3 u t H1 locs ht9 hvm hr3 hB hz1 hk1 hS => ?_)
  obtain ⟨n4, n5, n6, hn4, hn5, hn6, xr3_0, xr3_1, hr3, rfl⟩ := hr3
  have hn4 : (-1) ≤ n4.toInt ∧ n4.toInt ≤ 200 := hn4
  have hn5 : 0 ≤ n5.toInt ∧ n5.toInt ≤ 5 := hn5
  have hn6 : 0 ≤ n6.toInt ∧ n6.toInt ≤ 200 := hn6
  obtain ⟨hP, hD⟩ := hB
  rw [ht9] at hP
  generalize H1 = H at hP hS ⊢
  have hP : va_P (dC, dI) classes (WX h g ca (u2 (u2 (u2 iv 8 5 n6) 8 3 n4) 8 4 n5) lv fa la) H := hP
  have hD : va_D A (WX h g ca (u2 (u2 (u2 iv 8 5 n6) 8 3 n4) 8 4 n5) lv fa la) := (show va_D _ (WX h g ca (u2 (u2 (u2 iv 8 5 n6) 8 3 n4) 8 4 n5) lv fa la) from hD).weaken (fun _ _ _ h => hFc _ h)
  have : (9999 : Int32).toInt = 9999 := (by decide)
  have xr3_0 : (((r3 : Int32).toInt = -1 ∧ 1 ≤ (n5 : Int32).toInt ∧ Num (fun j => ((fa 8 1) j).toInt) ((iv 8 2) : Int32).toInt (0 : Int32).toInt (9999 : Int32).toInt (n2 : Int32).toInt (n5 : Int32).toInt (n4 : Int32).toInt 0 0) ∨ (0 ≤ (r3 : Int32).toInt ∧ (n5 : Int32).toInt = ((iv 8 4) : Int32).toInt ∧ (n4 : Int32).toInt = ((iv 8 3) : Int32).toInt ∧ Num (fun j => ((fa 8 1) j).toInt) ((iv 8 2) : Int32).toInt (0 : Int32).toInt (9999 : Int32).toInt (n2 : Int32).toInt 0 0 (r3 : Int32).toInt (n6 : Int32).toInt)) := xr3_0
  have xr3_1 : (r3 : Int32).toInt ≤ 9999 := xr3_1
  refine lv_istore_n (lv' := [(2, .int r3), (1, .int n2), (0, .ref (g 11 4))]) hx hb dX8_readStrike_18 rfl hl (by decide) rfl (fun ls hl => ?_)
  refine lv_iload_n hx hb dX8_readStrike_19 rfl (lv_at hl 0 rfl) ?_
  refine lv_iconst (v := (-1)) hx hb dX8_readStrike_20 (by decide) ?_
  refine lv_icmp_ne (tgt := 26) hx hb dX8_readStrike_21 (by decide) (fun c7 => ?_) (fun c7 => ?_)
  · have fc7 := z_ne (rfl : (r3).toInt = _) (by decide : ((-1) : Int32).toInt = (-1)) c7
    refine lv_iload_n hx hb dX8_readStrike_26 rfl (lv_at hl 0 rfl) ?_
    refine lv_aload_n hx hb dX8_readStrike_27 rfl (lv_at hl 2 rfl) ?_
    refine gX_8_0 hx hb ht hown hK hP m_228 dX8_readStrike_28 ?_
    have i_1_7 : 0 ≤ (iv 1 7).toInt ∧ (iv 1 7).toInt ≤ 8 := hI.1 1 7
    refine gX_1_7 hx hb ht hown hK hP m_197 (v := (iv 1 7)) rfl dX8_readStrike_31 ?_
    refine lv_icmp_lt (tgt := 44) hx hb dX8_readStrike_34 (by decide) (fun c8 => ?_) (fun c8 => ?_)
    · have fc8 := z_lt (rfl : (r3).toInt = _) (rfl : ((iv 1 7)).toInt = _) c8
      refine lv_aload_n hx hb dX8_readStrike_44 rfl (lv_at hl 2 rfl) ?_
      have hFc := free_all hD hS hA
      refine va_calli (va_runV (As := []) (rest := []) ⟨hx, hb, hml, hown, ht⟩ (c_X8_readStop_r l dC dI H.size h g ca (u2 (u2 (u2 iv 8 5 n6) 8 3 n4) 8 4 n5) lv fa la (IX_i (c := 8) (k := 4) (IX_i (c := 8) (k := 3) (IX_i (c := 8) (k := 5) hI (show inb (0, 200) n6 from ⟨by omega, by omega⟩)) (show inb ((-1), 200) n4 from ⟨by omega, by omega⟩)) (show inb (0, 5) n5 from ⟨by omega, by omega⟩))) (kV 0 ht m_775 m_777 m_24 m_82 m_778 rfl rfl hd_X8_readStop_v ⟨Nat.le_of_ble_eq_true rfl, Nat.le_of_ble_eq_true rfl⟩) (vW hP hK hD (rX_8 hK hP)) rfl rfl hl.1 rfl (lv_room (Nat.le_of_ble_eq_true rfl)) dX8_readStrike_45 ⟨Nat.le_of_ble_eq_true rfl, Nat.le_of_ble_eq_true rfl⟩) hS (fun q _ h => hFc q h) hFc (fun r9 u t H1 locs ht9 hvm hr9 hB hz1 hk1 hS => ?_)
      obtain ⟨n10, n11, n12, hn10, hn11, hn12, xr9_0, hr9, rfl⟩ := hr9
      have hn10 : (-1) ≤ n10.toInt ∧ n10.toInt ≤ 200 := hn10
      have hn11 : 0 ≤ n11.toInt ∧ n11.toInt ≤ 5 := hn11
      have hn12 : 0 ≤ n12.toInt ∧ n12.toInt ≤ 200 := hn12
      obtain ⟨hP, hD⟩ := hB
      rw [ht9] at hP
      generalize H1 = H at hP hS ⊢
      have hP : va_P (dC, dI) classes (WX h g ca (u2 (u2 (u2 iv 8 5 n12) 8 3 n10) 8 4 n11) lv fa la) H := hP
      have hD : va_D A (WX h g ca (u2 (u2 (u2 iv 8 5 n12) 8 3 n10) 8 4 n11) lv fa la) := (show va_D _ (WX h g ca (u2 (u2 (u2 iv 8 5 n12) 8 3 n10) 8 4 n11) lv fa la) from hD).weaken (fun _ _ _ h => hFc _ h)
      have xr9_0 : (((r9 : Int32).toInt = 0 ∧ 1 ≤ (n11 : Int32).toInt ∧ StpR (fun j => ((fa 8 1) j).toInt) ((iv 8 2) : Int32).toInt (n6 : Int32).toInt (n11 : Int32).toInt (n10 : Int32).toInt 0) ∨ ((r9 : Int32).toInt = 1 ∧ (n11 : Int32).toInt = (n5 : Int32).toInt ∧ (n10 : Int32).toInt = (n4 : Int32).toInt ∧ StpR (fun j => ((fa 8 1) j).toInt) ((iv 8 2) : Int32).toInt (n6 : Int32).toInt 0 0 (n12 : Int32).toInt)) := xr9_0
      refine lv_if_ne (tgt := 53) hx hb dX8_readStrike_48 (by decide) (fun c13 => ?_) (fun c13 => ?_)
      · have fc13 := z_ne (rfl : (r9).toInt = _) (by decide : (0 : Int32).toInt = 0) c13
        refine lv_aload_n hx hb dX8_readStrike_53 rfl (lv_at hl 2 rfl) ?_
        refine gX_8_0 hx hb ht hown hK hP m_228 dX8_readStrike_54 ?_
        refine lv_bipush (v := 7) hx hb dX8_readStrike_57 (by decide) ?_
        refine lv_iload_n hx hb dX8_readStrike_59 rfl (lv_at hl 0 rfl) ?_
        refine lv_iconst (v := 0) hx hb dX8_readStrike_60 (by decide) ?_
        have i_1_8 : 0 ≤ (iv 1 8).toInt ∧ (iv 1 8).toInt ≤ 12 := hI.1 1 8
        have hFc := free_all hD hS hA
        refine va_callv (va_runV (As := [.int 7, .int r3, .int 0]) (rest := []) ⟨hx, hb, hml, hown, ht⟩ (c_X1_draft_r l dC dI H.size h g ca (u2 (u2 (u2 iv 8 5 n12) 8 3 n10) 8 4 n11) lv fa la (IX_i (c := 8) (k := 4) (IX_i (c := 8) (k := 3) (IX_i (c := 8) (k := 5) hI (show inb (0, 200) n12 from ⟨by omega, by omega⟩)) (show inb ((-1), 200) n10 from ⟨by omega, by omega⟩)) (show inb (0, 5) n11 from ⟨by omega, by omega⟩)) 7 r3 0 (show 0 ≤ ((iv 1 7) : Int32).toInt ∧ ((iv 1 7) : Int32).toInt ≤ 7 from ⟨by omega, by omega⟩) (show 0 ≤ ((iv 1 8) : Int32).toInt ∧ ((iv 1 8) : Int32).toInt ≤ 11 from ⟨by omega, by omega⟩)) (kV 3 ht m_779 m_780 m_781 m_81 m_782 rfl rfl hd_X1_draft_v ⟨Nat.le_of_ble_eq_true rfl, Nat.le_of_ble_eq_true rfl⟩) (vW hP hK hD (rX_1 hK hP)) rfl rfl hl.1 rfl (lv_room (Nat.le_of_ble_eq_true rfl)) dX8_readStrike_61 ⟨Nat.le_of_ble_eq_true rfl, Nat.le_of_ble_eq_true rfl⟩) hS (fun q _ h => hFc q h) hFc (fun u t H1 locs ht9 hvm hr14 hB hz1 hk1 hS => ?_)
        obtain ⟨n15, n16, n17, n18, hn18, dn18, xr14_0, xr14_1, xr14_2, xr14_3, xr14_4, rfl⟩ := hr14
        have hn15 : ∀ j, inb (bA 1 2 j) (n15 j) := fun j => full_i _
        have hn16 : ∀ j, inb (bA 1 3 j) (n16 j) := fun j => full_i _
        have hn17 : ∀ j, inb (bA 1 4 j) (n17 j) := fun j => full_i _
        have dn18 : n18.toInt = ((iv 1 8) : Int32).toInt + 1 := dn18
        have hn18 : 0 ≤ n18.toInt ∧ n18.toInt ≤ 12 := hn18
        obtain ⟨hP, hD⟩ := hB
        rw [ht9] at hP
        generalize H1 = H at hP hS ⊢
        have hP : va_P (dC, dI) classes (WX h g ca (u2 (u2 (u2 (u2 iv 8 5 n12) 8 3 n10) 8 4 n11) 1 8 n18) lv (u2 (u2 (u2 fa 1 2 n15) 1 3 n16) 1 4 n17) la) H := hP
        have hD : va_D A (WX h g ca (u2 (u2 (u2 (u2 iv 8 5 n12) 8 3 n10) 8 4 n11) 1 8 n18) lv (u2 (u2 (u2 fa 1 2 n15) 1 3 n16) 1 4 n17) la) := (show va_D _ (WX h g ca (u2 (u2 (u2 (u2 iv 8 5 n12) 8 3 n10) 8 4 n11) 1 8 n18) lv (u2 (u2 (u2 fa 1 2 n15) 1 3 n16) 1 4 n17) la) from hD).weaken (fun _ _ _ h => hFc _ h)
        have xr14_0 : ∀ j : Nat, (j : Int) < 12 * ((iv 1 7) : Int32).toInt + ((iv 1 8) : Int32).toInt → n15 j = (fa 1 2) j ∧ n16 j = (fa 1 3) j ∧ n17 j = (fa 1 4) j := xr14_0
        have xr14_1 : n15 (12 * (((iv 1 7) : Int32).toInt).toNat + (((iv 1 8) : Int32).toInt).toNat) = (7 : Int32) := xr14_1
        have xr14_2 : n16 (12 * (((iv 1 7) : Int32).toInt).toNat + (((iv 1 8) : Int32).toInt).toNat) = (r3 : Int32) := xr14_2
        have xr14_3 : n17 (12 * (((iv 1 7) : Int32).toInt).toNat + (((iv 1 8) : Int32).toInt).toNat) = (0 : Int32) := xr14_3
        have xr14_4 : (n18 : Int32).toInt = ((iv 1 8) : Int32).toInt + 1 := xr14_4
        refine lv_iconst (v := 1) hx hb dX8_readStrike_64 (by decide) ?_
        have : (1 : Int32).toInt = 1 := (by decide)
        have hP9 : va_P (dC, dI) classes (WX h g ca (u2 (u2 (u2 (u2 iv 1 8 n18) 8 3 n10) 8 4 n11) 8 5 n12) lv (u2 (u2 (u2 fa 1 2 n15) 1 3 n16) 1 4 n17) la) H := hP
        have hD9 : va_D A (WX h g ca (u2 (u2 (u2 (u2 iv 1 8 n18) 8 3 n10) 8 4 n11) 8 5 n12) lv (u2 (u2 (u2 fa 1 2 n15) 1 3 n16) 1 4 n17) la) := hD
        exact W.zret (v := 1) hx hb hr rfl (fun t ht9 hW => ⟨⟨1, ((u2 (u2 (u2 (u2 iv 1 8 n18) 8 3 n10) 8 4 n11) 8 5 n12), lv, (u2 (u2 (u2 fa 1 2 n15) 1 3 n16) 1 4 n17), la), rfl, ⟨n15, n16, n17, n18, n10, n11, n12, (show inb (0, 12) n18 from ⟨by omega, by omega⟩), (show inb ((-1), 200) n10 from ⟨by omega, by omega⟩), (show inb (0, 5) n11 from ⟨by omega, by omega⟩), (show inb (0, 200) n12 from ⟨by omega, by omega⟩), (show (((1 : Int32).toInt = 0 ∧ 1 ≤ (n11 : Int32).toInt ∧ (n18 : Int32).toInt = (iv 1 8).toInt ∧ ∃ b kd v1 : Int, StrR (fun j => ((fa 8 1) j).toInt) ((iv 8 2) : Int32).toInt (iv 1 7).toInt (iv 8 5).toInt (n11 : Int32).toInt (n10 : Int32).toInt b kd v1 ) ∨ ((1 : Int32).toInt = 1 ∧ (n11 : Int32).toInt = (iv 8 4).toInt ∧ (n10 : Int32).toInt = (iv 8 3).toInt ∧ (n18 : Int32).toInt = (iv 1 8).toInt + 1 ∧ StrR (fun j => ((fa 8 1) j).toInt) ((iv 8 2) : Int32).toInt (iv 1 7).toInt (iv 8 5).toInt 0 0 (n12 : Int32).toInt (n15 (12 * ((iv 1 7).toInt).toNat + ((iv 1 8).toInt).toNat)).toInt (n16 (12 * ((iv 1 7).toInt).toNat + ((iv 1 8).toInt).toNat)).toInt)) from (by
              have k1 := xr1_0
              have kk := k1.1
              rcases xr3_0 with ⟨n1, -⟩ | ⟨n1, n2, n3, n4⟩
              · exfalso; omega
              · rcases xr9_0 with ⟨p1, -⟩ | ⟨p1, p2, p3, p4⟩
                · exfalso; omega
                · rw [xr14_1, xr14_2]; exact Or.inr ⟨by omega, by omega, by omega, by omega, _, _, _, Num_sk (by omega) k1 n4, Or.inr (Or.inr ⟨rfl, by omega, by decide, p4⟩)⟩)), (show ∀ j : Nat, (j : Int) < 12 * (iv 1 7).toInt + (iv 1 8).toInt → n15 j = (fa 1 2) j ∧ n16 j = (fa 1 3) j ∧ n17 j = (fa 1 4) j from xr14_0), ⟨by decide, by decide⟩, rfl⟩, by rw [ht9]; exact hP9, hD9⟩, hS.F ht9⟩) hS.2.2 dX8_readStrike_65
      · have fc13 := z_eq (rfl : (r9).toInt = _) (by decide : (0 : Int32).toInt = 0) c13
        refine lv_iconst (v := 0) hx hb dX8_readStrike_51 (by decide) ?_
        have i_1_8 : 0 ≤ (iv 1 8).toInt ∧ (iv 1 8).toInt ≤ 12 := hI.1 1 8
        have hP9 : va_P (dC, dI) classes (WX h g ca (u2 (u2 (u2 (u2 iv 1 8 (iv 1 8)) 8 3 n10) 8 4 n11) 8 5 n12) lv (u2 (u2 (u2 fa 1 2 (fa 1 2)) 1 3 (fa 1 3)) 1 4 (fa 1 4)) la) H := hP
        have hD9 : va_D A (WX h g ca (u2 (u2 (u2 (u2 iv 1 8 (iv 1 8)) 8 3 n10) 8 4 n11) 8 5 n12) lv (u2 (u2 (u2 fa 1 2 (fa 1 2)) 1 3 (fa 1 3)) 1 4 (fa 1 4)) la) := hD
        exact W.zret (v := 0) hx hb hr rfl (fun t ht9 hW => ⟨⟨0, ((u2 (u2 (u2 (u2 iv 1 8 (iv 1 8)) 8 3 n10) 8 4 n11) 8 5 n12), lv, (u2 (u2 (u2 fa 1 2 (fa 1 2)) 1 3 (fa 1 3)) 1 4 (fa 1 4)), la), rfl, ⟨(fa 1 2), (fa 1 3), (fa 1 4), (iv 1 8), n10, n11, n12, (hI.1 1 8), (show inb ((-1), 200) n10 from ⟨by omega, by omega⟩), (show inb (0, 5) n11 from ⟨by omega, by omega⟩), (show inb (0, 200) n12 from ⟨by omega, by omega⟩), (show (((0 : Int32).toInt = 0 ∧ 1 ≤ (n11 : Int32).toInt ∧ ((iv 1 8) : Int32).toInt = (iv 1 8).toInt ∧ ∃ b kd v1 : Int, StrR (fun j => ((fa 8 1) j).toInt) ((iv 8 2) : Int32).toInt (iv 1 7).toInt (iv 8 5).toInt (n11 : Int32).toInt (n10 : Int32).toInt b kd v1 ) ∨ ((0 : Int32).toInt = 1 ∧ (n11 : Int32).toInt = (iv 8 4).toInt ∧ (n10 : Int32).toInt = (iv 8 3).toInt ∧ ((iv 1 8) : Int32).toInt = (iv 1 8).toInt + 1 ∧ StrR (fun j => ((fa 8 1) j).toInt) ((iv 8 2) : Int32).toInt (iv 1 7).toInt (iv 8 5).toInt 0 0 (n12 : Int32).toInt ((fa 1 2) (12 * ((iv 1 7).toInt).toNat + ((iv 1 8).toInt).toNat)).toInt ((fa 1 3) (12 * ((iv 1 7).toInt).toNat + ((iv 1 8).toInt).toNat)).toInt)) from (by
              have k1 := xr1_0
              have kk := k1.1
              rcases xr3_0 with ⟨n1, -⟩ | ⟨n1, n2, n3, n4⟩
              · exfalso; omega
              · rcases xr9_0 with ⟨p1, p2, p3⟩ | ⟨p1, -⟩
                · exact Or.inl ⟨by omega, by omega, by omega, 0, _, _, _, _, _, Num_sk (by omega) k1 n4, Or.inr (Or.inr ⟨rfl, by omega, rfl, p3⟩)⟩
                · exfalso; omega)), (show ∀ j : Nat, (j : Int) < 12 * (iv 1 7).toInt + (iv 1 8).toInt → (fa 1 2) j = (fa 1 2) j ∧ (fa 1 3) j = (fa 1 3) j ∧ (fa 1 4) j = (fa 1 4) j from fun j hj => ⟨rfl, rfl, rfl⟩), ⟨by decide, by decide⟩, rfl⟩, by rw [ht9]; exact hP9, hD9⟩, hS.F ht9⟩) hS.2.2 dX8_readStrike_52
    · have fc8 := z_nlt (rfl : (r3).toInt = _) (rfl : ((iv 1 7)).toInt = _) c8
      refine lv_aload_n hx hb dX8_readStrike_37 rfl (lv_at hl 2 rfl) ?_
      refine lv_iconst (v := 3) hx hb dX8_readStrike_38 (by decide) ?_
      refine lv_iload_n hx hb dX8_readStrike_39 rfl (lv_at hl 1 rfl) ?_
      have hFc := free_all hD hS hA
      refine va_calli (va_runV (As := [.int 3, .int n2]) (rest := []) ⟨hx, hb, hml, hown, ht⟩ (c_X8_fail_r l dC dI H.size h g ca (u2 (u2 (u2 iv 8 5 n6) 8 3 n4) 8 4 n5) lv fa la (IX_i (c := 8) (k := 4) (IX_i (c := 8) (k := 3) (IX_i (c := 8) (k := 5) hI (show inb (0, 200) n6 from ⟨by omega, by omega⟩)) (show inb ((-1), 200) n4 from ⟨by omega, by omega⟩)) (show inb (0, 5) n5 from ⟨by omega, by omega⟩)) 3 n2 ⟨by decide, by decide⟩ ⟨by omega, by omega⟩) (kV 2 ht m_757 m_759 m_21 m_82 m_760 rfl rfl hd_X8_fail_v ⟨Nat.le_of_ble_eq_true rfl, Nat.le_of_ble_eq_true rfl⟩) (vW hP hK hD (rX_8 hK hP)) rfl rfl hl.1 rfl (lv_room (Nat.le_of_ble_eq_true rfl)) dX8_readStrike_40 ⟨Nat.le_of_ble_eq_true rfl, Nat.le_of_ble_eq_true rfl⟩) hS (fun q _ h => hFc q h) hFc (fun r19 u t H1 locs ht9 hvm hr19 hB hz1 hk1 hS => ?_)
      obtain ⟨n20, n21, hn20, hn21, xr19_0, xr19_1, hr19, rfl⟩ := hr19
      have hn20 : (-1) ≤ n20.toInt ∧ n20.toInt ≤ 200 := hn20
      have hn21 : 0 ≤ n21.toInt ∧ n21.toInt ≤ 5 := hn21
      obtain ⟨hP, hD⟩ := hB
      rw [ht9] at hP
      generalize H1 = H at hP hS ⊢
      have hP : va_P (dC, dI) classes (WX h g ca (u2 (u2 (u2 iv 8 5 n6) 8 3 n20) 8 4 n21) lv fa la) H := hP
      have hD : va_D A (WX h g ca (u2 (u2 (u2 iv 8 5 n6) 8 3 n20) 8 4 n21) lv fa la) := (show va_D _ (WX h g ca (u2 (u2 (u2 iv 8 5 n6) 8 3 n20) 8 4 n21) lv fa la) from hD).weaken (fun _ _ _ h => hFc _ h)
      have : (3 : Int32).toInt = 3 := (by decide)
      have xr19_0 : (n21 : Int32).toInt = (3 : Int32).toInt := xr19_0
      have xr19_1 : (n20 : Int32).toInt = (n2 : Int32).toInt := xr19_1
      have i_1_8 : 0 ≤ (iv 1 8).toInt ∧ (iv 1 8).toInt ≤ 12 := hI.1 1 8
      have hP9 : va_P (dC, dI) classes (WX h g ca (u2 (u2 (u2 (u2 iv 1 8 (iv 1 8)) 8 3 n20) 8 4 n21) 8 5 n6) lv (u2 (u2 (u2 fa 1 2 (fa 1 2)) 1 3 (fa 1 3)) 1 4 (fa 1 4)) la) H := hP
      have hD9 : va_D A (WX h g ca (u2 (u2 (u2 (u2 iv 1 8 (iv 1 8)) 8 3 n20) 8 4 n21) 8 5 n6) lv (u2 (u2 (u2 fa 1 2 (fa 1 2)) 1 3 (fa 1 3)) 1 4 (fa 1 4)) la) := hD
      exact W.zret (v := r19) hx hb hr (nar01 ⟨by omega, by omega⟩) (fun t ht9 hW => ⟨⟨r19, ((u2 (u2 (u2 (u2 iv 1 8 (iv 1 8)) 8 3 n20) 8 4 n21) 8 5 n6), lv, (u2 (u2 (u2 fa 1 2 (fa 1 2)) 1 3 (fa 1 3)) 1 4 (fa 1 4)), la), rfl, ⟨(fa 1 2), (fa 1 3), (fa 1 4), (iv 1 8), n20, n21, n6, (hI.1 1 8), (show inb ((-1), 200) n20 from ⟨by omega, by omega⟩), (show inb (0, 5) n21 from ⟨by omega, by omega⟩), (show inb (0, 200) n6 from ⟨by omega, by omega⟩), (show (((r19 : Int32).toInt = 0 ∧ 1 ≤ (n21 : Int32).toInt ∧ ((iv 1 8) : Int32).toInt = (iv 1 8).toInt ∧ ∃ b kd v1 : Int, StrR (fun j => ((fa 8 1) j).toInt) ((iv 8 2) : Int32).toInt (iv 1 7).toInt (iv 8 5).toInt (n21 : Int32).toInt (n20 : Int32).toInt b kd v1 ) ∨ ((r19 : Int32).toInt = 1 ∧ (n21 : Int32).toInt = (iv 8 4).toInt ∧ (n20 : Int32).toInt = (iv 8 3).toInt ∧ ((iv 1 8) : Int32).toInt = (iv 1 8).toInt + 1 ∧ StrR (fun j => ((fa 8 1) j).toInt) ((iv 8 2) : Int32).toInt (iv 1 7).toInt (iv 8 5).toInt 0 0 (n6 : Int32).toInt ((fa 1 2) (12 * ((iv 1 7).toInt).toNat + ((iv 1 8).toInt).toNat)).toInt ((fa 1 3) (12 * ((iv 1 7).toInt).toNat + ((iv 1 8).toInt).toNat)).toInt)) from (by
            have k1 := xr1_0
            have kk := k1.1
            rcases xr3_0 with ⟨n1, -⟩ | ⟨n1, n2, n3, n4⟩
            · exfalso; omega
            · exact Or.inl ⟨by omega, by omega, by omega, 0, 0, _, _, _, _, Num_sk (by omega) k1 n4, Or.inr (Or.inl ⟨rfl, by omega, by omega, (by have hf9 := xr19_1; rw [hf9]; exact k1)⟩)⟩)), (show ∀ j : Nat, (j : Int) < 12 * (iv 1 7).toInt + (iv 1 8).toInt → (fa 1 2) j = (fa 1 2) j ∧ (fa 1 3) j = (fa 1 3) j ∧ (fa 1 4) j = (fa 1 4) j from fun j hj => ⟨rfl, rfl, rfl⟩), ⟨by omega, by omega⟩, rfl⟩, by rw [ht9]; exact hP9, hD9⟩, hS.F ht9⟩) hS.2.2 dX8_readStrike_43
  · have fc7 := z_eq (rfl : (r3).toInt = _) (by decide : ((-1) : Int32).toInt = (-1)) c7
    refine lv_iconst (v := 0) hx hb dX8_readStrike_24 (by decide) ?_
    have i_1_8 : 0 ≤ (iv 1 8).toInt ∧ (iv 1 8).toInt ≤ 12 := hI.1 1 8
    have hP9 : va_P (dC, dI) classes (WX h g ca (u2 (u2 (u2 (u2 iv 1 8 (iv 1 8)) 8 3 n4) 8 4 n5) 8 5 n6) lv (u2 (u2 (u2 fa 1 2 (fa 1 2)) 1 3 (fa 1 3)) 1 4 (fa 1 4)) la) H := hP
    have hD9 : va_D A (WX h g ca (u2 (u2 (u2 (u2 iv 1 8 (iv 1 8)) 8 3 n4) 8 4 n5) 8 5 n6) lv (u2 (u2 (u2 fa 1 2 (fa 1 2)) 1 3 (fa 1 3)) 1 4 (fa 1 4)) la) := hD
    exact W.zret (v := 0) hx hb hr rfl (fun t ht9 hW => ⟨⟨0, ((u2 (u2 (u2 (u2 iv 1 8 (iv 1 8)) 8 3 n4) 8 4 n5) 8 5 n6), lv, (u2 (u2 (u2 fa 1 2 (fa 1 2)) 1 3 (fa 1 3)) 1 4 (fa 1 4)), la), rfl, ⟨(fa 1 2), (fa 1 3), (fa 1 4), (iv 1 8), n4, n5, n6, (hI.1 1 8), (show inb ((-1), 200) n4 from ⟨by omega, by omega⟩), (show inb (0, 5) n5 from ⟨by omega, by omega⟩), (show inb (0, 200) n6 from ⟨by omega, by omega⟩), (show (((0 : Int32).toInt = 0 ∧ 1 ≤ (n5 : Int32).toInt ∧ ((iv 1 8) : Int32).toInt = (iv 1 8).toInt ∧ ∃ b kd v1 : Int, StrR (fun j => ((fa 8 1) j).toInt) ((iv 8 2) : Int32).toInt (iv 1 7).toInt (iv 8 5).toInt (n5 : Int32).toInt (n4 : Int32).toInt b kd v1 ) ∨ ((0 : Int32).toInt = 1 ∧ (n5 : Int32).toInt = (iv 8 4).toInt ∧ (n4 : Int32).toInt = (iv 8 3).toInt ∧ ((iv 1 8) : Int32).toInt = (iv 1 8).toInt + 1 ∧ StrR (fun j => ((fa 8 1) j).toInt) ((iv 8 2) : Int32).toInt (iv 1 7).toInt (iv 8 5).toInt 0 0 (n6 : Int32).toInt ((fa 1 2) (12 * ((iv 1 7).toInt).toNat + ((iv 1 8).toInt).toNat)).toInt ((fa 1 3) (12 * ((iv 1 7).toInt).toNat + ((iv 1 8).toInt).toNat)).toInt)) from (by
          have k1 := xr1_0
          have kk := k1.1
          rcases xr3_0 with ⟨n1, n2, n3⟩ | ⟨n1, -⟩
          · exact Or.inl ⟨by omega, by omega, by omega, 0, 0, 0, _, _, _, Num_sk (by omega) k1 n3, Or.inl ⟨by omega, rfl, rfl⟩⟩
          · exfalso; omega)), (show ∀ j : Nat, (j : Int) < 12 * (iv 1 7).toInt + (iv 1 8).toInt → (fa 1 2) j = (fa 1 2) j ∧ (fa 1 3) j = (fa 1 3) j ∧ (fa 1 4) j = (fa 1 4) j from fun j hj => ⟨rfl, rfl, rfl⟩), ⟨by decide, by decide⟩, rfl⟩, by rw [ht9]; exact hP9, hD9⟩, hS.F ht9⟩) hS.2.2 dX8_readStrike_25
set_option maxHeartbeats 4000000 in
set_option maxRecDepth 100000 in
/-- X8_readName -/
theorem c_X8_readName_r (l : Launch) (dC : Nat → ClassId) (dI : Nat → Nat → Nat) (sz : Nat) (ak av : Nat → Nat) (h : Nat) (g : Nat → Nat → Nat) (ca : Nat → Nat → ClassId) (iv : Nat → Nat → Int32) (lv : Nat → Nat → Int64) (fa : Nat → Nat → Nat → Int32) (la : Nat → Nat → Nat → Int64) (hI : IX iv fa) (q_1_7 : 0 ≤ (iv 1 7).toInt ∧ (iv 1 7).toInt ≤ 7) (q_1_8 : 0 ≤ (iv 1 8).toInt ∧ (iv 1 8).toInt ≤ 11) : Met l yX8_readName (wc yX8_readName cX8_readName 3 (some .boolean)) ({ frames := 6, cells := 0, slots := 0, locals := 135 } : Room) (pWZ ak av (dC, dI) classes (WX h g ca iv lv fa la) (TX ca) sz [.ref (g 11 4)]) (va_Qi (fun r (u : SS) => ∃ (na_1_2 : Nat → Int32) (na_1_3 : Nat → Int32) (na_1_4 : Nat → Int32) (na_1_5 : Nat → Int32) (ni_1_8 : Int32) (ni_8_3 : Int32) (ni_8_4 : Int32) (ni_8_5 : Int32), inb (bI 1 8) ni_1_8 ∧ inb (bI 8 3) ni_8_3 ∧ inb (bI 8 4) ni_8_4 ∧ inb (bI 8 5) ni_8_5 ∧ (((r.toInt = 0 ∧ 1 ≤ (ni_8_4).toInt ∧ (ni_1_8).toInt = (iv 1 8).toInt ∧ ∃ (b kd v1 v2 : Int) (wd : Nat → Int), NamR (fun j => ((fa 8 1) j).toInt) (iv 8 2).toInt (iv 8 5).toInt (ni_8_4).toInt (ni_8_3).toInt b kd v1 v2 wd) ∨ (r.toInt = 1 ∧ (ni_8_4).toInt = (iv 8 4).toInt ∧ (ni_8_3).toInt = (iv 8 3).toInt ∧ (ni_1_8).toInt = (iv 1 8).toInt + 1 ∧ NamR (fun j => ((fa 8 1) j).toInt) (iv 8 2).toInt (iv 8 5).toInt 0 0 (ni_8_5).toInt (na_1_2 (12 * ((iv 1 7).toInt).toNat + ((iv 1 8).toInt).toNat)).toInt (na_1_3 (12 * ((iv 1 7).toInt).toNat + ((iv 1 8).toInt).toNat)).toInt (na_1_4 (12 * ((iv 1 7).toInt).toNat + ((iv 1 8).toInt).toNat)).toInt (fun j => (na_1_5 ((8 * (12 * ((iv 1 7).toInt).toNat + ((iv 1 8).toInt).toNat)) + j)).toInt)))) ∧ (∀ j : Nat, (j : Int) < 12 * (iv 1 7).toInt + (iv 1 8).toInt → na_1_2 j = (fa 1 2) j ∧ na_1_3 j = (fa 1 3) j ∧ na_1_4 j = (fa 1 4) j) ∧ (∀ j : Nat, (j : Int) < (8 * (12 * (iv 1 7).toInt + (iv 1 8).toInt)) → na_1_5 j = (fa 1 5) j) ∧ (0 ≤ r.toInt ∧ r.toInt ≤ 1) ∧ u = ((u2 (u2 (u2 (u2 iv 1 8 ni_1_8) 8 3 ni_8_3) 8 4 ni_8_4) 8 5 ni_8_5), lv, (u2 (u2 (u2 (u2 fa 1 2 na_1_2) 1 3 na_1_3) 1 4 na_1_4) 1 5 na_1_5), la)) (bX (dC, dI) h g ca (va_A (WX h g ca iv lv fa la) sz)) (va_A (WX h g ca iv lv fa la) sz)) 0 0 (va_A (WX h g ca iv lv fa la) sz) := by
  refine Met.ofW (cc := cX8_readName) (maxL := 3) (ret := (some .boolean)) (by decide) rfl ?_
  intro p e s m args below meth c s₁ B hml hv
  obtain ⟨rfl, hsz, hP, hK, hD0, hZ⟩ := hv
  have hx := B.exec
  have hb := B.bytes
  have hr := B.returns
  have ht := tb_tl (atoms_spec (ws := wc yX8_readName cX8_readName 3 (some .boolean)) B.pre)
  have hown : s.vm.findClass RX8 = some m.cls := findClass_of_methodNamed B.named
  have hlocks := B.notSynchronized
  subst hsz
  have hD := hD0.self (sz := s.heap.size)
  generalize hAe : va_A (WX h g ca iv lv fa la) s.heap.size = A at hD hZ ⊢
  have hA : ∀ q : Nat, s.heap.size ≤ q → A q := fun q h => by rw [← hAe]; exact Or.inr h
  have hS : va_S A s.heap s.heap [] := va_S.rf
  have hl := lv_entry [.ref (g 11 4)] (n := 3) (Nat.le_of_ble_eq_true rfl)
  rw [lg_entry_eq]
  generalize (lg_sl [.ref (g 11 4)] ++ List.replicate (3 - (lg_sl [.ref (g 11 4)]).length) Slot.unset).toArray = ls at hl ⊢
  have hl : lv_has ls 3 [(0, .ref (g 11 4))] := hl
  refine lv_aload_n hx hb dX8_readName_0 rfl (lv_at hl 0 rfl) ?_
  have i_1_7 : 0 ≤ (iv 1 7).toInt ∧ (iv 1 7).toInt ≤ 8 := hI.1 1 7
  have i_1_8 : 0 ≤ (iv 1 8).toInt ∧ (iv 1 8).toInt ≤ 12 := hI.1 1 8
  have i_8_5 : 0 ≤ (iv 8 5).toInt ∧ (iv 8 5).toInt ≤ 200 := hI.1 8 5
  have i_8_4 : 0 ≤ (iv 8 4).toInt ∧ (iv 8 4).toInt ≤ 5 := hI.1 8 4
  have i_8_3 : (-1) ≤ (iv 8 3).toInt ∧ (iv 8 3).toInt ≤ 200 := hI.1 8 3
  have hFc := free_all hD hS hA
  refine va_calli (va_runV (As := []) (rest := []) ⟨hx, hb, hml, hown, ht⟩ (c_X8_readWord_r l dC dI s.heap.size h g ca iv lv fa la hI (show 0 ≤ ((iv 1 7) : Int32).toInt ∧ ((iv 1 7) : Int32).toInt ≤ 7 from ⟨by omega, by omega⟩) (show 0 ≤ ((iv 1 8) : Int32).toInt ∧ ((iv 1 8) : Int32).toInt ≤ 11 from ⟨by omega, by omega⟩)) (kV 0 ht m_792 m_794 m_27 m_82 m_795 rfl rfl hd_X8_readWord_v ⟨Nat.le_of_ble_eq_true rfl, Nat.le_of_ble_eq_true rfl⟩) (vW hP hK hD (rX_8 hK hP)) rfl rfl hl.1 rfl (lv_room (Nat.le_of_ble_eq_true rfl)) dX8_readName_1 ⟨Nat.le_of_ble_eq_true rfl, Nat.le_of_ble_eq_true rfl⟩) hS (fun q _ h => hFc q h) hFc (fun r1 u t H1 locs ht9 hvm hr1 hB hz1 hk1 hS => ?_)
  obtain ⟨n2, n3, n4, n5, hn3, hn4, hn5, xr1_0, xr1_1, hr1, rfl⟩ := hr1
  have hn2 : ∀ j, inb (bA 1 5 j) (n2 j) := fun j => full_i _
  have hn3 : (-1) ≤ n3.toInt ∧ n3.toInt ≤ 200 := hn3
  have hn4 : 0 ≤ n4.toInt ∧ n4.toInt ≤ 5 := hn4
  have hn5 : 0 ≤ n5.toInt ∧ n5.toInt ≤ 200 := hn5
  obtain ⟨hP, hD⟩ := hB
  rw [ht9] at hP
  generalize H1 = H at hP hS ⊢
  have hP : va_P (dC, dI) classes (WX h g ca (u2 (u2 (u2 iv 8 3 n3) 8 4 n4) 8 5 n5) lv (u2 fa 1 5 n2) la) H := hP
  have hD : va_D A (WX h g ca (u2 (u2 (u2 iv 8 3 n3) 8 4 n4) 8 5 n5) lv (u2 fa 1 5 n2) la) := (show va_D _ (WX h g ca (u2 (u2 (u2 iv 8 3 n3) 8 4 n4) 8 5 n5) lv (u2 fa 1 5 n2) la) from hD).weaken (fun _ _ _ h => hFc _ h)
  have i_8_2 : 0 ≤ (iv 8 2).toInt ∧ (iv 8 2).toInt ≤ 200 := hI.1 8 2
  have xr1_0 : ∃ s e : Int, Sk (fun j => ((fa 8 1) j).toInt) ((iv 8 2) : Int32).toInt ((iv 8 5) : Int32).toInt s ∧ Rn (fun j => ((fa 8 1) j).toInt) ((iv 8 2) : Int32).toInt 97 122 s e ∧ (((r1 : Int32).toInt = 0 ∧ e = s ∧ (n4 : Int32).toInt = 1 ∧ (n3 : Int32).toInt = s) ∨ ((r1 : Int32).toInt = 0 ∧ 8 < e - s ∧ (n4 : Int32).toInt = 4 ∧ (n3 : Int32).toInt = s) ∨ ((r1 : Int32).toInt = 1 ∧ (n4 : Int32).toInt = ((iv 8 4) : Int32).toInt ∧ (n3 : Int32).toInt = ((iv 8 3) : Int32).toInt ∧ (n5 : Int32).toInt = e ∧ (s < e ∧ e - s ≤ 8) ∧ ∀ j : Nat, j < 8 → ((j : Int) < e - s → (n2 ((8 * (12 * (((iv 1 7) : Int32).toInt).toNat + (((iv 1 8) : Int32).toInt).toNat)) + j)).toInt = ((fa 8 1) (s.toNat + j)).toInt) ∧ (e - s ≤ (j : Int) → (n2 ((8 * (12 * (((iv 1 7) : Int32).toInt).toNat + (((iv 1 8) : Int32).toInt).toNat)) + j)).toInt = 0))) := xr1_0
  have xr1_1 : ∀ j : Nat, (j : Int) < (8 * (12 * ((iv 1 7) : Int32).toInt + ((iv 1 8) : Int32).toInt)) → n2 j = (fa 1 5) j := xr1_1
  refine lv_if_ne (tgt := 9) hx hb dX8_readName_4 (by decide) (fun c6 => ?_) (fun c6 => ?_)
  · have fc6 := z_ne (rfl : (r1).toInt = _) (by decide : (0 : Int32).toInt = 0) c6
    refine lv_aload_n hx hb dX8_readName_9 rfl (lv_at hl 0 rfl) ?_
    refine lv_iconst (v := 0) hx hb dX8_readName_10 (by decide) ?_
    refine lv_sipush (v := 9999) hx hb dX8_readName_11 (by decide) ?_
    have : (0 : Int32).toInt = 0 := (by decide)
    have hFc := free_all hD hS hA
    refine va_calli (va_runV (As := [.int 0, .int 9999]) (rest := []) ⟨hx, hb, hml, hown, ht⟩ (c_X8_readNumber_r l dC dI H.size ak av h g ca (u2 (u2 (u2 iv 8 3 n3) 8 4 n4) 8 5 n5) lv (u2 fa 1 5 n2) la (IX_a (c := 1) (k := 5) (IX_i (c := 8) (k := 5) (IX_i (c := 8) (k := 4) (IX_i (c := 8) (k := 3) hI (show inb ((-1), 200) n3 from ⟨by omega, by omega⟩)) (show inb (0, 5) n4 from ⟨by omega, by omega⟩)) (show inb (0, 200) n5 from ⟨by omega, by omega⟩)) hn2) 0 9999 (show 0 ≤ (0 : Int32).toInt from by omega)) (kV 2 ht m_770 m_772 m_23 m_82 m_773 rfl rfl hd_X8_readNumber_v ⟨Nat.le_of_ble_eq_true rfl, Nat.le_of_ble_eq_true rfl⟩) (vWZ hP hK hD ((hZ.kept hS.2.1).narrow (free_all hD hS hA)) (rX_8 hK hP)) rfl rfl hl.1 rfl (lv_room (Nat.le_of_ble_eq_true rfl)) dX8_readName_14 ⟨Nat.le_of_ble_eq_true rfl, Nat.le_of_ble_eq_true rfl⟩) hS (fun q _ h => hFc q h) hFc (fun r7 u t H1 locs ht9 hvm hr7 hB hz1 hk1 hS => ?_)
    obtain ⟨n8, n9, n10, hn8, hn9, hn10, xr7_0, xr7_1, hr7, rfl⟩ := hr7
    have hn8 : (-1) ≤ n8.toInt ∧ n8.toInt ≤ 200 := hn8
    have hn9 : 0 ≤ n9.toInt ∧ n9.toInt ≤ 5 := hn9
    have hn10 : 0 ≤ n10.toInt ∧ n10.toInt ≤ 200 := hn10
    obtain ⟨hP, hD⟩ := hB
    rw [ht9] at hP
    generalize H1 = H at hP hS ⊢
    have hP : va_P (dC, dI) classes (WX h g ca (u2 (u2 (u2 iv 8 3 n8) 8 4 n9) 8 5 n10) lv (u2 fa 1 5 n2) la) H := hP
    have hD : va_D A (WX h g ca (u2 (u2 (u2 iv 8 3 n8) 8 4 n9) 8 5 n10) lv (u2 fa 1 5 n2) la) := (show va_D _ (WX h g ca (u2 (u2 (u2 iv 8 3 n8) 8 4 n9) 8 5 n10) lv (u2 fa 1 5 n2) la) from hD).weaken (fun _ _ _ h => hFc _ h)
    have : (9999 : Int32).toInt = 9999 := (by decide)
    have xr7_0 : (((r7 : Int32).toInt = -1 ∧ 1 ≤ (n9 : Int32).toInt ∧ Num (fun j => ((fa 8 1) j).toInt) ((iv 8 2) : Int32).toInt (0 : Int32).toInt (9999 : Int32).toInt (n5 : Int32).toInt (n9 : Int32).toInt (n8 : Int32).toInt 0 0) ∨ (0 ≤ (r7 : Int32).toInt ∧ (n9 : Int32).toInt = (n4 : Int32).toInt ∧ (n8 : Int32).toInt = (n3 : Int32).toInt ∧ Num (fun j => ((fa 8 1) j).toInt) ((iv 8 2) : Int32).toInt (0 : Int32).toInt (9999 : Int32).toInt (n5 : Int32).toInt 0 0 (r7 : Int32).toInt (n10 : Int32).toInt)) := xr7_0
    have xr7_1 : (r7 : Int32).toInt ≤ 9999 := xr7_1
    refine lv_istore_n (lv' := [(1, .int r7), (0, .ref (g 11 4))]) hx hb dX8_readName_17 rfl hl (by decide) rfl (fun ls hl => ?_)
    refine lv_iload_n hx hb dX8_readName_18 rfl (lv_at hl 0 rfl) ?_
    refine lv_iconst (v := (-1)) hx hb dX8_readName_19 (by decide) ?_
    refine lv_icmp_eq (tgt := 33) hx hb dX8_readName_20 (by decide) (fun c11 => ?_) (fun c11 => ?_)
    · have fc11 := z_eq (rfl : (r7).toInt = _) (by decide : ((-1) : Int32).toInt = (-1)) c11
      refine lv_iconst (v := 0) hx hb dX8_readName_33 (by decide) ?_
      have hP9 : va_P (dC, dI) classes (WX h g ca (u2 (u2 (u2 (u2 iv 1 8 (iv 1 8)) 8 3 n8) 8 4 n9) 8 5 n10) lv (u2 (u2 (u2 (u2 fa 1 2 (fa 1 2)) 1 3 (fa 1 3)) 1 4 (fa 1 4)) 1 5 n2) la) H := hP
      have hD9 : va_D A (WX h g ca (u2 (u2 (u2 (u2 iv 1 8 (iv 1 8)) 8 3 n8) 8 4 n9) 8 5 n10) lv (u2 (u2 (u2 (u2 fa 1 2 (fa 1 2)) 1 3 (fa 1 3)) 1 4 (fa 1 4)) 1 5 n2) la) := hD
      exact W.zret (v := 0) hx hb hr rfl (fun t ht9 hW => ⟨⟨0, ((u2 (u2 (u2 (u2 iv 1 8 (iv 1 8)) 8 3 n8) 8 4 n9) 8 5 n10), lv, (u2 (u2 (u2 (u2 fa 1 2 (fa 1 2)) 1 3 (fa 1 3)) 1 4 (fa 1 4)) 1 5 n2), la), rfl, ⟨(fa 1 2), (fa 1 3), (fa 1 4), n2, (iv 1 8), n8, n9, n10, (hI.1 1 8), (show inb ((-1), 200) n8 from ⟨by omega, by omega⟩), (show inb (0, 5) n9 from ⟨by omega, by omega⟩), (show inb (0, 200) n10 from ⟨by omega, by omega⟩), (show (((0 : Int32).toInt = 0 ∧ 1 ≤ (n9 : Int32).toInt ∧ ((iv 1 8) : Int32).toInt = (iv 1 8).toInt ∧ ∃ (b kd v1 v2 : Int) (wd : Nat → Int), NamR (fun j => ((fa 8 1) j).toInt) ((iv 8 2) : Int32).toInt (iv 8 5).toInt (n9 : Int32).toInt (n8 : Int32).toInt b kd v1 v2 wd) ∨ ((0 : Int32).toInt = 1 ∧ (n9 : Int32).toInt = (iv 8 4).toInt ∧ (n8 : Int32).toInt = (iv 8 3).toInt ∧ ((iv 1 8) : Int32).toInt = (iv 1 8).toInt + 1 ∧ NamR (fun j => ((fa 8 1) j).toInt) ((iv 8 2) : Int32).toInt (iv 8 5).toInt 0 0 (n10 : Int32).toInt ((fa 1 2) (12 * ((iv 1 7).toInt).toNat + ((iv 1 8).toInt).toNat)).toInt ((fa 1 3) (12 * ((iv 1 7).toInt).toNat + ((iv 1 8).toInt).toNat)).toInt ((fa 1 4) (12 * ((iv 1 7).toInt).toNat + ((iv 1 8).toInt).toNat)).toInt (fun j => (n2 ((8 * (12 * ((iv 1 7).toInt).toNat + ((iv 1 8).toInt).toNat)) + j)).toInt))) from (by
            obtain ⟨s, e, k1, k2, k3⟩ := xr1_0
            rcases k3 with ⟨k4, -⟩ | ⟨k4, -⟩ | ⟨k4, k5, k6, k7, k8, k9⟩
            · exfalso; omega
            · exfalso; omega
            · rcases xr7_0 with ⟨n1, n2, n3⟩ | ⟨n1, -⟩
              · rw [k7] at n3; exact Or.inl ⟨by omega, by omega, by omega, 0, 0, 0, 0, _, s, e, k1, k2, Or.inr (Or.inr ⟨k8, k9, _, _, _, n3, Or.inl ⟨by omega, rfl, rfl⟩⟩)⟩
              · exfalso; omega)), (show ∀ j : Nat, (j : Int) < 12 * (iv 1 7).toInt + (iv 1 8).toInt → (fa 1 2) j = (fa 1 2) j ∧ (fa 1 3) j = (fa 1 3) j ∧ (fa 1 4) j = (fa 1 4) j from fun j hj => ⟨rfl, rfl, rfl⟩), (show ∀ j : Nat, (j : Int) < (8 * (12 * (iv 1 7).toInt + (iv 1 8).toInt)) → n2 j = (fa 1 5) j from xr1_1), ⟨by decide, by decide⟩, rfl⟩, by rw [ht9]; exact hP9, hD9⟩, hS.F ht9⟩) hS.2.2 dX8_readName_34
    · have fc11 := z_ne (rfl : (r7).toInt = _) (by decide : ((-1) : Int32).toInt = (-1)) c11
      refine lv_aload_n hx hb dX8_readName_23 rfl (lv_at hl 1 rfl) ?_
      refine va_ldcS hx hb hown hZ.2.2.2.2.1 dX8_readName_24 ?_
      have hFc := free_all hD hS hA
      refine va_calli (va_runV (As := [.ref (ak 3)]) (rest := []) ⟨hx, hb, hml, hown, ht⟩ (c_X8_readOneOf_r3 l dC dI H.size ak av h g ca (u2 (u2 (u2 iv 8 3 n8) 8 4 n9) 8 5 n10) lv (u2 fa 1 5 n2) la (IX_a (c := 1) (k := 5) (IX_i (c := 8) (k := 5) (IX_i (c := 8) (k := 4) (IX_i (c := 8) (k := 3) hI (show inb ((-1), 200) n8 from ⟨by omega, by omega⟩)) (show inb (0, 5) n9 from ⟨by omega, by omega⟩)) (show inb (0, 200) n10 from ⟨by omega, by omega⟩)) hn2)) (kV 1 ht m_697 m_699 m_18 m_82 m_700 rfl rfl hd_X8_readOneOf_v ⟨Nat.le_of_ble_eq_true rfl, Nat.le_of_ble_eq_true rfl⟩) (vWZ hP hK hD ((hZ.kept hS.2.1).narrow (free_all hD hS hA)) (rX_8 hK hP)) rfl rfl hl.1 rfl (lv_room (Nat.le_of_ble_eq_true rfl)) dX8_readName_26 ⟨Nat.le_of_ble_eq_true rfl, Nat.le_of_ble_eq_true rfl⟩) hS (fun q _ h => hFc q h) hFc (fun r12 u t H1 locs ht9 hvm hr12 hB hz1 hk1 hS => ?_)
      obtain ⟨n13, n14, n15, hn13, hn14, hn15, xr12_0, hr12, rfl⟩ := hr12
      have hn13 : (-1) ≤ n13.toInt ∧ n13.toInt ≤ 200 := hn13
      have hn14 : 0 ≤ n14.toInt ∧ n14.toInt ≤ 5 := hn14
      have hn15 : 0 ≤ n15.toInt ∧ n15.toInt ≤ 200 := hn15
      obtain ⟨hP, hD⟩ := hB
      rw [ht9] at hP
      generalize H1 = H at hP hS ⊢
      have hP : va_P (dC, dI) classes (WX h g ca (u2 (u2 (u2 iv 8 3 n13) 8 4 n14) 8 5 n15) lv (u2 fa 1 5 n2) la) H := hP
      have hD : va_D A (WX h g ca (u2 (u2 (u2 iv 8 3 n13) 8 4 n14) 8 5 n15) lv (u2 fa 1 5 n2) la) := (show va_D _ (WX h g ca (u2 (u2 (u2 iv 8 3 n13) 8 4 n14) 8 5 n15) lv (u2 fa 1 5 n2) la) from hD).weaken (fun _ _ _ h => hFc _ h)
      have xr12_0 : ∃ s e : Int, Sk (fun j => ((fa 8 1) j).toInt) ((iv 8 2) : Int32).toInt (n10 : Int32).toInt s ∧ Rn (fun j => ((fa 8 1) j).toInt) ((iv 8 2) : Int32).toInt 97 122 s e ∧ (((r12 : Int32).toInt = -1 ∧ ¬ w_to (fun j => ((fa 8 1) j).toInt) s e ∧ (n14 : Int32).toInt = 1 ∧ (n13 : Int32).toInt = s) ∨ (0 ≤ (r12 : Int32).toInt ∧ w_to (fun j => ((fa 8 1) j).toInt) s e ∧ (n14 : Int32).toInt = (n9 : Int32).toInt ∧ (n13 : Int32).toInt = (n8 : Int32).toInt ∧ (n15 : Int32).toInt = e)) := xr12_0
      refine lv_iconst (v := (-1)) hx hb dX8_readName_29 (by decide) ?_
      refine lv_icmp_ne (tgt := 35) hx hb dX8_readName_30 (by decide) (fun c16 => ?_) (fun c16 => ?_)
      · have fc16 := z_ne (rfl : (r12).toInt = _) (by decide : ((-1) : Int32).toInt = (-1)) c16
        refine lv_aload_n hx hb dX8_readName_35 rfl (lv_at hl 1 rfl) ?_
        refine lv_iload_n hx hb dX8_readName_36 rfl (lv_at hl 0 rfl) ?_
        refine lv_iconst (v := 1) hx hb dX8_readName_37 (by decide) ?_
        refine lv_iadd hx hb dX8_readName_38 ?_
        refine lv_topi (fun v17 ev17 => ?_)
        have tv17 := z_add ev17 (rfl : (r7).toInt = _) (by decide : (1 : Int32).toInt = 1) (by omega) (by omega)
        refine lv_sipush (v := 9999) hx hb dX8_readName_39 (by decide) ?_
        have hFc := free_all hD hS hA
        refine va_calli (va_runV (As := [.int v17, .int 9999]) (rest := []) ⟨hx, hb, hml, hown, ht⟩ (c_X8_readNumber_r l dC dI H.size ak av h g ca (u2 (u2 (u2 iv 8 3 n13) 8 4 n14) 8 5 n15) lv (u2 fa 1 5 n2) la (IX_a (c := 1) (k := 5) (IX_i (c := 8) (k := 5) (IX_i (c := 8) (k := 4) (IX_i (c := 8) (k := 3) hI (show inb ((-1), 200) n13 from ⟨by omega, by omega⟩)) (show inb (0, 5) n14 from ⟨by omega, by omega⟩)) (show inb (0, 200) n15 from ⟨by omega, by omega⟩)) hn2) v17 9999 (show 0 ≤ (v17 : Int32).toInt from by omega)) (kV 2 ht m_770 m_772 m_23 m_82 m_773 rfl rfl hd_X8_readNumber_v ⟨Nat.le_of_ble_eq_true rfl, Nat.le_of_ble_eq_true rfl⟩) (vWZ hP hK hD ((hZ.kept hS.2.1).narrow (free_all hD hS hA)) (rX_8 hK hP)) rfl rfl hl.1 rfl (lv_room (Nat.le_of_ble_eq_true rfl)) dX8_readName_42 ⟨Nat.le_of_ble_eq_true rfl, Nat.le_of_ble_eq_true rfl⟩) hS (fun q _ h => hFc q h) hFc (fun r18 u t H1 locs ht9 hvm hr18 hB hz1 hk1 hS => ?_)
        obtain ⟨n19, n20, n21, hn19, hn20, hn21, xr18_0, xr18_1, hr18, rfl⟩ := hr18
        have hn19 : (-1) ≤ n19.toInt ∧ n19.toInt ≤ 200 := hn19
        have hn20 : 0 ≤ n20.toInt ∧ n20.toInt ≤ 5 := hn20
        have hn21 : 0 ≤ n21.toInt ∧ n21.toInt ≤ 200 := hn21
        obtain ⟨hP, hD⟩ := hB
        rw [ht9] at hP
        generalize H1 = H at hP hS ⊢
        have hP : va_P (dC, dI) classes (WX h g ca (u2 (u2 (u2 iv 8 3 n19) 8 4 n20) 8 5 n21) lv (u2 fa 1 5 n2) la) H := hP
        have hD : va_D A (WX h g ca (u2 (u2 (u2 iv 8 3 n19) 8 4 n20) 8 5 n21) lv (u2 fa 1 5 n2) la) := (show va_D _ (WX h g ca (u2 (u2 (u2 iv 8 3 n19) 8 4 n20) 8 5 n21) lv (u2 fa 1 5 n2) la) from hD).weaken (fun _ _ _ h => hFc _ h)
        have xr18_0 : (((r18 : Int32).toInt = -1 ∧ 1 ≤ (n20 : Int32).toInt ∧ Num (fun j => ((fa 8 1) j).toInt) ((iv 8 2) : Int32).toInt (v17 : Int32).toInt (9999 : Int32).toInt (n15 : Int32).toInt (n20 : Int32).toInt (n19 : Int32).toInt 0 0) ∨ (0 ≤ (r18 : Int32).toInt ∧ (n20 : Int32).toInt = (n14 : Int32).toInt ∧ (n19 : Int32).toInt = (n13 : Int32).toInt ∧ Num (fun j => ((fa 8 1) j).toInt) ((iv 8 2) : Int32).toInt (v17 : Int32).toInt (9999 : Int32).toInt (n15 : Int32).toInt 0 0 (r18 : Int32).toInt (n21 : Int32).toInt)) := xr18_0
        have xr18_1 : (r18 : Int32).toInt ≤ 9999 := xr18_1
        refine lv_istore_n (lv' := [(2, .int r18), (1, .int r7), (0, .ref (g 11 4))]) hx hb dX8_readName_45 rfl hl (by decide) rfl (fun ls hl => ?_)
        refine lv_iload_n hx hb dX8_readName_46 rfl (lv_at hl 0 rfl) ?_
        refine lv_iconst (v := (-1)) hx hb dX8_readName_47 (by decide) ?_
        refine lv_icmp_eq (tgt := 58) hx hb dX8_readName_48 (by decide) (fun c22 => ?_) (fun c22 => ?_)
        · have fc22 := z_eq (rfl : (r18).toInt = _) (by decide : ((-1) : Int32).toInt = (-1)) c22
          refine lv_iconst (v := 0) hx hb dX8_readName_58 (by decide) ?_
          have hP9 : va_P (dC, dI) classes (WX h g ca (u2 (u2 (u2 (u2 iv 1 8 (iv 1 8)) 8 3 n19) 8 4 n20) 8 5 n21) lv (u2 (u2 (u2 (u2 fa 1 2 (fa 1 2)) 1 3 (fa 1 3)) 1 4 (fa 1 4)) 1 5 n2) la) H := hP
          have hD9 : va_D A (WX h g ca (u2 (u2 (u2 (u2 iv 1 8 (iv 1 8)) 8 3 n19) 8 4 n20) 8 5 n21) lv (u2 (u2 (u2 (u2 fa 1 2 (fa 1 2)) 1 3 (fa 1 3)) 1 4 (fa 1 4)) 1 5 n2) la) := hD
          exact W.zret (v := 0) hx hb hr rfl (fun t ht9 hW => ⟨⟨0, ((u2 (u2 (u2 (u2 iv 1 8 (iv 1 8)) 8 3 n19) 8 4 n20) 8 5 n21), lv, (u2 (u2 (u2 (u2 fa 1 2 (fa 1 2)) 1 3 (fa 1 3)) 1 4 (fa 1 4)) 1 5 n2), la), rfl, ⟨(fa 1 2), (fa 1 3), (fa 1 4), n2, (iv 1 8), n19, n20, n21, (hI.1 1 8), (show inb ((-1), 200) n19 from ⟨by omega, by omega⟩), (show inb (0, 5) n20 from ⟨by omega, by omega⟩), (show inb (0, 200) n21 from ⟨by omega, by omega⟩), (show (((0 : Int32).toInt = 0 ∧ 1 ≤ (n20 : Int32).toInt ∧ ((iv 1 8) : Int32).toInt = (iv 1 8).toInt ∧ ∃ (b kd v1 v2 : Int) (wd : Nat → Int), NamR (fun j => ((fa 8 1) j).toInt) ((iv 8 2) : Int32).toInt (iv 8 5).toInt (n20 : Int32).toInt (n19 : Int32).toInt b kd v1 v2 wd) ∨ ((0 : Int32).toInt = 1 ∧ (n20 : Int32).toInt = (iv 8 4).toInt ∧ (n19 : Int32).toInt = (iv 8 3).toInt ∧ ((iv 1 8) : Int32).toInt = (iv 1 8).toInt + 1 ∧ NamR (fun j => ((fa 8 1) j).toInt) ((iv 8 2) : Int32).toInt (iv 8 5).toInt 0 0 (n21 : Int32).toInt ((fa 1 2) (12 * ((iv 1 7).toInt).toNat + ((iv 1 8).toInt).toNat)).toInt ((fa 1 3) (12 * ((iv 1 7).toInt).toNat + ((iv 1 8).toInt).toNat)).toInt ((fa 1 4) (12 * ((iv 1 7).toInt).toNat + ((iv 1 8).toInt).toNat)).toInt (fun j => (n2 ((8 * (12 * ((iv 1 7).toInt).toNat + ((iv 1 8).toInt).toNat)) + j)).toInt))) from (by
                obtain ⟨s, e, k1, k2, k3⟩ := xr1_0
                rcases k3 with ⟨k4, -⟩ | ⟨k4, -⟩ | ⟨k4, k5, k6, k7, k8, k9⟩
                · exfalso; omega
                · exfalso; omega
                · rcases xr7_0 with ⟨n1, -⟩ | ⟨n1, n2, n3, n4⟩
                  · exfalso; omega
                  · rw [k7] at n4
                    obtain ⟨s2, e2, l1, l2, l3⟩ := xr12_0
                    rcases l3 with ⟨l4, -⟩ | ⟨l4, l5, l6, l7, l8⟩
                    · exfalso; omega
                    · have hp9 : (v17 : Int32).toInt = (r7 : Int32).toInt + 1 := by omega
                      rcases xr18_0 with ⟨m1, m2, m3⟩ | ⟨m1, -⟩
                      · rw [l8, hp9] at m3; exact Or.inl ⟨by omega, by omega, by omega, 0, 0, _, 0, _, s, e, k1, k2, Or.inr (Or.inr ⟨k8, k9, _, _, _, n4, Or.inr ⟨rfl, s2, e2, l1, l2, Or.inr ⟨l5, _, _, _, m3, Or.inl ⟨by omega, rfl, rfl⟩⟩⟩⟩)⟩
                      · exfalso; omega)), (show ∀ j : Nat, (j : Int) < 12 * (iv 1 7).toInt + (iv 1 8).toInt → (fa 1 2) j = (fa 1 2) j ∧ (fa 1 3) j = (fa 1 3) j ∧ (fa 1 4) j = (fa 1 4) j from fun j hj => ⟨rfl, rfl, rfl⟩), (show ∀ j : Nat, (j : Int) < (8 * (12 * (iv 1 7).toInt + (iv 1 8).toInt)) → n2 j = (fa 1 5) j from xr1_1), ⟨by decide, by decide⟩, rfl⟩, by rw [ht9]; exact hP9, hD9⟩, hS.F ht9⟩) hS.2.2 dX8_readName_59
        · have fc22 := z_ne (rfl : (r18).toInt = _) (by decide : ((-1) : Int32).toInt = (-1)) c22
          refine lv_aload_n hx hb dX8_readName_51 rfl (lv_at hl 2 rfl) ?_
          have hFc := free_all hD hS hA
          refine va_calli (va_runV (As := []) (rest := []) ⟨hx, hb, hml, hown, ht⟩ (c_X8_readStop_r l dC dI H.size h g ca (u2 (u2 (u2 iv 8 3 n19) 8 4 n20) 8 5 n21) lv (u2 fa 1 5 n2) la (IX_a (c := 1) (k := 5) (IX_i (c := 8) (k := 5) (IX_i (c := 8) (k := 4) (IX_i (c := 8) (k := 3) hI (show inb ((-1), 200) n19 from ⟨by omega, by omega⟩)) (show inb (0, 5) n20 from ⟨by omega, by omega⟩)) (show inb (0, 200) n21 from ⟨by omega, by omega⟩)) hn2)) (kV 0 ht m_775 m_777 m_24 m_82 m_778 rfl rfl hd_X8_readStop_v ⟨Nat.le_of_ble_eq_true rfl, Nat.le_of_ble_eq_true rfl⟩) (vW hP hK hD (rX_8 hK hP)) rfl rfl hl.1 rfl (lv_room (Nat.le_of_ble_eq_true rfl)) dX8_readName_52 ⟨Nat.le_of_ble_eq_true rfl, Nat.le_of_ble_eq_true rfl⟩) hS (fun q _ h => hFc q h) hFc (fun r23 u t H1 locs ht9 hvm hr23 hB hz1 hk1 hS => ?_)
          obtain ⟨n24, n25, n26, hn24, hn25, hn26, xr23_0, hr23, rfl⟩ := hr23
          have hn24 : (-1) ≤ n24.toInt ∧ n24.toInt ≤ 200 := hn24
          have hn25 : 0 ≤ n25.toInt ∧ n25.toInt ≤ 5 := hn25
          have hn26 : 0 ≤ n26.toInt ∧ n26.toInt ≤ 200 := hn26
          obtain ⟨hP, hD⟩ := hB
          rw [ht9] at hP
          generalize H1 = H at hP hS ⊢
          have hP : va_P (dC, dI) classes (WX h g ca (u2 (u2 (u2 iv 8 3 n24) 8 4 n25) 8 5 n26) lv (u2 fa 1 5 n2) la) H := hP
          have hD : va_D A (WX h g ca (u2 (u2 (u2 iv 8 3 n24) 8 4 n25) 8 5 n26) lv (u2 fa 1 5 n2) la) := (show va_D _ (WX h g ca (u2 (u2 (u2 iv 8 3 n24) 8 4 n25) 8 5 n26) lv (u2 fa 1 5 n2) la) from hD).weaken (fun _ _ _ h => hFc _ h)
          have xr23_0 : (((r23 : Int32).toInt = 0 ∧ 1 ≤ (n25 : Int32).toInt ∧ StpR (fun j => ((fa 8 1) j).toInt) ((iv 8 2) : Int32).toInt (n21 : Int32).toInt (n25 : Int32).toInt (n24 : Int32).toInt 0) ∨ ((r23 : Int32).toInt = 1 ∧ (n25 : Int32).toInt = (n20 : Int32).toInt ∧ (n24 : Int32).toInt = (n19 : Int32).toInt ∧ StpR (fun j => ((fa 8 1) j).toInt) ((iv 8 2) : Int32).toInt (n21 : Int32).toInt 0 0 (n26 : Int32).toInt)) := xr23_0
          refine lv_if_ne (tgt := 60) hx hb dX8_readName_55 (by decide) (fun c27 => ?_) (fun c27 => ?_)
          · have fc27 := z_ne (rfl : (r23).toInt = _) (by decide : (0 : Int32).toInt = 0) c27
            refine lv_aload_n hx hb dX8_readName_60 rfl (lv_at hl 2 rfl) ?_
            refine gX_8_0 hx hb ht hown hK hP m_228 dX8_readName_61 ?_
            refine lv_bipush (v := 6) hx hb dX8_readName_64 (by decide) ?_
            refine lv_iload_n hx hb dX8_readName_66 rfl (lv_at hl 1 rfl) ?_
            refine lv_iload_n hx hb dX8_readName_67 rfl (lv_at hl 0 rfl) ?_
            have hFc := free_all hD hS hA
            refine va_callv (va_runV (As := [.int 6, .int r7, .int r18]) (rest := []) ⟨hx, hb, hml, hown, ht⟩ (c_X1_draft_r l dC dI H.size h g ca (u2 (u2 (u2 iv 8 3 n24) 8 4 n25) 8 5 n26) lv (u2 fa 1 5 n2) la (IX_a (c := 1) (k := 5) (IX_i (c := 8) (k := 5) (IX_i (c := 8) (k := 4) (IX_i (c := 8) (k := 3) hI (show inb ((-1), 200) n24 from ⟨by omega, by omega⟩)) (show inb (0, 5) n25 from ⟨by omega, by omega⟩)) (show inb (0, 200) n26 from ⟨by omega, by omega⟩)) hn2) 6 r7 r18 (show 0 ≤ ((iv 1 7) : Int32).toInt ∧ ((iv 1 7) : Int32).toInt ≤ 7 from ⟨by omega, by omega⟩) (show 0 ≤ ((iv 1 8) : Int32).toInt ∧ ((iv 1 8) : Int32).toInt ≤ 11 from ⟨by omega, by omega⟩)) (kV 3 ht m_779 m_780 m_781 m_81 m_782 rfl rfl hd_X1_draft_v ⟨Nat.le_of_ble_eq_true rfl, Nat.le_of_ble_eq_true rfl⟩) (vW hP hK hD (rX_1 hK hP)) rfl rfl hl.1 rfl (lv_room (Nat.le_of_ble_eq_true rfl)) dX8_readName_68 ⟨Nat.le_of_ble_eq_true rfl, Nat.le_of_ble_eq_true rfl⟩) hS (fun q _ h => hFc q h) hFc (fun u t H1 locs ht9 hvm hr28 hB hz1 hk1 hS => ?_)
            obtain ⟨n29, n30, n31, n32, hn32, dn32, xr28_0, xr28_1, xr28_2, xr28_3, xr28_4, rfl⟩ := hr28
            have hn29 : ∀ j, inb (bA 1 2 j) (n29 j) := fun j => full_i _
            have hn30 : ∀ j, inb (bA 1 3 j) (n30 j) := fun j => full_i _
            have hn31 : ∀ j, inb (bA 1 4 j) (n31 j) := fun j => full_i _
            have dn32 : n32.toInt = ((iv 1 8) : Int32).toInt + 1 := dn32
            have hn32 : 0 ≤ n32.toInt ∧ n32.toInt ≤ 12 := hn32
            obtain ⟨hP, hD⟩ := hB
            rw [ht9] at hP
            generalize H1 = H at hP hS ⊢
            have hP : va_P (dC, dI) classes (WX h g ca (u2 (u2 (u2 (u2 iv 8 3 n24) 8 4 n25) 8 5 n26) 1 8 n32) lv (u2 (u2 (u2 (u2 fa 1 5 n2) 1 2 n29) 1 3 n30) 1 4 n31) la) H := hP
            have hD : va_D A (WX h g ca (u2 (u2 (u2 (u2 iv 8 3 n24) 8 4 n25) 8 5 n26) 1 8 n32) lv (u2 (u2 (u2 (u2 fa 1 5 n2) 1 2 n29) 1 3 n30) 1 4 n31) la) := (show va_D _ (WX h g ca (u2 (u2 (u2 (u2 iv 8 3 n24) 8 4 n25) 8 5 n26) 1 8 n32) lv (u2 (u2 (u2 (u2 fa 1 5 n2) 1 2 n29) 1 3 n30) 1 4 n31) la) from hD).weaken (fun _ _ _ h => hFc _ h)
            have xr28_0 : ∀ j : Nat, (j : Int) < 12 * ((iv 1 7) : Int32).toInt + ((iv 1 8) : Int32).toInt → n29 j = (fa 1 2) j ∧ n30 j = (fa 1 3) j ∧ n31 j = (fa 1 4) j := xr28_0
            have xr28_1 : n29 (12 * (((iv 1 7) : Int32).toInt).toNat + (((iv 1 8) : Int32).toInt).toNat) = (6 : Int32) := xr28_1
            have xr28_2 : n30 (12 * (((iv 1 7) : Int32).toInt).toNat + (((iv 1 8) : Int32).toInt).toNat) = (r7 : Int32) := xr28_2
            have xr28_3 : n31 (12 * (((iv 1 7) : Int32).toInt).toNat + (((iv 1 8) : Int32).toInt).toNat) = (r18 : Int32) := xr28_3
            have xr28_4 : (n32 : Int32).toInt = ((iv 1 8) : Int32).toInt + 1 := xr28_4
            refine lv_iconst (v := 1) hx hb dX8_readName_71 (by decide) ?_
            have : (1 : Int32).toInt = 1 := (by decide)
            have hP9 : va_P (dC, dI) classes (WX h g ca (u2 (u2 (u2 (u2 iv 1 8 n32) 8 3 n24) 8 4 n25) 8 5 n26) lv (u2 (u2 (u2 (u2 fa 1 2 n29) 1 3 n30) 1 4 n31) 1 5 n2) la) H := hP
            have hD9 : va_D A (WX h g ca (u2 (u2 (u2 (u2 iv 1 8 n32) 8 3 n24) 8 4 n25) 8 5 n26) lv (u2 (u2 (u2 (u2 fa 1 2 n29) 1 3 n30) 1 4 n31) 1 5 n2) la) := hD
            exact W.zret (v := 1) hx hb hr rfl (fun t ht9 hW => ⟨⟨1, ((u2 (u2 (u2 (u2 iv 1 8 n32) 8 3 n24) 8 4 n25) 8 5 n26), lv, (u2 (u2 (u2 (u2 fa 1 2 n29) 1 3 n30) 1 4 n31) 1 5 n2), la), rfl, ⟨n29, n30, n31, n2, n32, n24, n25, n26, (show inb (0, 12) n32 from ⟨by omega, by omega⟩), (show inb ((-1), 200) n24 from ⟨by omega, by omega⟩), (show inb (0, 5) n25 from ⟨by omega, by omega⟩), (show inb (0, 200) n26 from ⟨by omega, by omega⟩), (show (((1 : Int32).toInt = 0 ∧ 1 ≤ (n25 : Int32).toInt ∧ (n32 : Int32).toInt = (iv 1 8).toInt ∧ ∃ (b kd v1 v2 : Int) (wd : Nat → Int), NamR (fun j => ((fa 8 1) j).toInt) ((iv 8 2) : Int32).toInt (iv 8 5).toInt (n25 : Int32).toInt (n24 : Int32).toInt b kd v1 v2 wd) ∨ ((1 : Int32).toInt = 1 ∧ (n25 : Int32).toInt = (iv 8 4).toInt ∧ (n24 : Int32).toInt = (iv 8 3).toInt ∧ (n32 : Int32).toInt = (iv 1 8).toInt + 1 ∧ NamR (fun j => ((fa 8 1) j).toInt) ((iv 8 2) : Int32).toInt (iv 8 5).toInt 0 0 (n26 : Int32).toInt (n29 (12 * ((iv 1 7).toInt).toNat + ((iv 1 8).toInt).toNat)).toInt (n30 (12 * ((iv 1 7).toInt).toNat + ((iv 1 8).toInt).toNat)).toInt (n31 (12 * ((iv 1 7).toInt).toNat + ((iv 1 8).toInt).toNat)).toInt (fun j => (n2 ((8 * (12 * ((iv 1 7).toInt).toNat + ((iv 1 8).toInt).toNat)) + j)).toInt))) from (by
                  obtain ⟨s, e, k1, k2, k3⟩ := xr1_0
                  rcases k3 with ⟨k4, -⟩ | ⟨k4, -⟩ | ⟨k4, k5, k6, k7, k8, k9⟩
                  · exfalso; omega
                  · exfalso; omega
                  · rcases xr7_0 with ⟨n1, -⟩ | ⟨n1, n2, n3, n4⟩
                    · exfalso; omega
                    · rw [k7] at n4
                      obtain ⟨s2, e2, l1, l2, l3⟩ := xr12_0
                      rcases l3 with ⟨l4, -⟩ | ⟨l4, l5, l6, l7, l8⟩
                      · exfalso; omega
                      · have hp9 : (v17 : Int32).toInt = (r7 : Int32).toInt + 1 := by omega
                        rcases xr18_0 with ⟨m1, -⟩ | ⟨m1, m2, m3, m4⟩
                        · exfalso; omega
                        · rw [l8, hp9] at m4
                          rcases xr23_0 with ⟨p1, -⟩ | ⟨p1, p2, p3, p4⟩
                          · exfalso; omega
                          · rw [xr28_1, xr28_2, xr28_3]; exact Or.inr ⟨by omega, by omega, by omega, by omega, s, e, k1, k2, Or.inr (Or.inr ⟨k8, k9, _, _, _, n4, Or.inr ⟨rfl, s2, e2, l1, l2, Or.inr ⟨l5, _, _, _, m4, Or.inr ⟨rfl, by decide, p4⟩⟩⟩⟩)⟩)), (show ∀ j : Nat, (j : Int) < 12 * (iv 1 7).toInt + (iv 1 8).toInt → n29 j = (fa 1 2) j ∧ n30 j = (fa 1 3) j ∧ n31 j = (fa 1 4) j from xr28_0), (show ∀ j : Nat, (j : Int) < (8 * (12 * (iv 1 7).toInt + (iv 1 8).toInt)) → n2 j = (fa 1 5) j from xr1_1), ⟨by decide, by decide⟩, rfl⟩, by rw [ht9]; exact hP9, hD9⟩, hS.F ht9⟩) hS.2.2 dX8_readName_72
          · have fc27 := z_eq (rfl : (r23).toInt = _) (by decide : (0 : Int32).toInt = 0) c27
            refine lv_iconst (v := 0) hx hb dX8_readName_58 (by decide) ?_
            have hP9 : va_P (dC, dI) classes (WX h g ca (u2 (u2 (u2 (u2 iv 1 8 (iv 1 8)) 8 3 n24) 8 4 n25) 8 5 n26) lv (u2 (u2 (u2 (u2 fa 1 2 (fa 1 2)) 1 3 (fa 1 3)) 1 4 (fa 1 4)) 1 5 n2) la) H := hP
            have hD9 : va_D A (WX h g ca (u2 (u2 (u2 (u2 iv 1 8 (iv 1 8)) 8 3 n24) 8 4 n25) 8 5 n26) lv (u2 (u2 (u2 (u2 fa 1 2 (fa 1 2)) 1 3 (fa 1 3)) 1 4 (fa 1 4)) 1 5 n2) la) := hD
            exact W.zret (v := 0) hx hb hr rfl (fun t ht9 hW => ⟨⟨0, ((u2 (u2 (u2 (u2 iv 1 8 (iv 1 8)) 8 3 n24) 8 4 n25) 8 5 n26), lv, (u2 (u2 (u2 (u2 fa 1 2 (fa 1 2)) 1 3 (fa 1 3)) 1 4 (fa 1 4)) 1 5 n2), la), rfl, ⟨(fa 1 2), (fa 1 3), (fa 1 4), n2, (iv 1 8), n24, n25, n26, (hI.1 1 8), (show inb ((-1), 200) n24 from ⟨by omega, by omega⟩), (show inb (0, 5) n25 from ⟨by omega, by omega⟩), (show inb (0, 200) n26 from ⟨by omega, by omega⟩), (show (((0 : Int32).toInt = 0 ∧ 1 ≤ (n25 : Int32).toInt ∧ ((iv 1 8) : Int32).toInt = (iv 1 8).toInt ∧ ∃ (b kd v1 v2 : Int) (wd : Nat → Int), NamR (fun j => ((fa 8 1) j).toInt) ((iv 8 2) : Int32).toInt (iv 8 5).toInt (n25 : Int32).toInt (n24 : Int32).toInt b kd v1 v2 wd) ∨ ((0 : Int32).toInt = 1 ∧ (n25 : Int32).toInt = (iv 8 4).toInt ∧ (n24 : Int32).toInt = (iv 8 3).toInt ∧ ((iv 1 8) : Int32).toInt = (iv 1 8).toInt + 1 ∧ NamR (fun j => ((fa 8 1) j).toInt) ((iv 8 2) : Int32).toInt (iv 8 5).toInt 0 0 (n26 : Int32).toInt ((fa 1 2) (12 * ((iv 1 7).toInt).toNat + ((iv 1 8).toInt).toNat)).toInt ((fa 1 3) (12 * ((iv 1 7).toInt).toNat + ((iv 1 8).toInt).toNat)).toInt ((fa 1 4) (12 * ((iv 1 7).toInt).toNat + ((iv 1 8).toInt).toNat)).toInt (fun j => (n2 ((8 * (12 * ((iv 1 7).toInt).toNat + ((iv 1 8).toInt).toNat)) + j)).toInt))) from (by
                  obtain ⟨s, e, k1, k2, k3⟩ := xr1_0
                  rcases k3 with ⟨k4, -⟩ | ⟨k4, -⟩ | ⟨k4, k5, k6, k7, k8, k9⟩
                  · exfalso; omega
                  · exfalso; omega
                  · rcases xr7_0 with ⟨n1, -⟩ | ⟨n1, n2, n3, n4⟩
                    · exfalso; omega
                    · rw [k7] at n4
                      obtain ⟨s2, e2, l1, l2, l3⟩ := xr12_0
                      rcases l3 with ⟨l4, -⟩ | ⟨l4, l5, l6, l7, l8⟩
                      · exfalso; omega
                      · have hp9 : (v17 : Int32).toInt = (r7 : Int32).toInt + 1 := by omega
                        rcases xr18_0 with ⟨m1, -⟩ | ⟨m1, m2, m3, m4⟩
                        · exfalso; omega
                        · rw [l8, hp9] at m4
                          rcases xr23_0 with ⟨p1, p2, p3⟩ | ⟨p1, -⟩
                          · exact Or.inl ⟨by omega, by omega, by omega, 0, _, _, _, _, s, e, k1, k2, Or.inr (Or.inr ⟨k8, k9, _, _, _, n4, Or.inr ⟨rfl, s2, e2, l1, l2, Or.inr ⟨l5, _, _, _, m4, Or.inr ⟨rfl, rfl, p3⟩⟩⟩⟩)⟩
                          · exfalso; omega)), (show ∀ j : Nat, (j : Int) < 12 * (iv 1 7).toInt + (iv 1 8).toInt → (fa 1 2) j = (fa 1 2) j ∧ (fa 1 3) j = (fa 1 3) j ∧ (fa 1 4) j = (fa 1 4) j from fun j hj => ⟨rfl, rfl, rfl⟩), (show ∀ j : Nat, (j : Int) < (8 * (12 * (iv 1 7).toInt + (iv 1 8).toInt)) → n2 j = (fa 1 5) j from xr1_1), ⟨by decide, by decide⟩, rfl⟩, by rw [ht9]; exact hP9, hD9⟩, hS.F ht9⟩) hS.2.2 dX8_readName_59
      · have fc16 := z_eq (rfl : (r12).toInt = _) (by decide : ((-1) : Int32).toInt = (-1)) c16
        refine lv_iconst (v := 0) hx hb dX8_readName_33 (by decide) ?_
        have hP9 : va_P (dC, dI) classes (WX h g ca (u2 (u2 (u2 (u2 iv 1 8 (iv 1 8)) 8 3 n13) 8 4 n14) 8 5 n15) lv (u2 (u2 (u2 (u2 fa 1 2 (fa 1 2)) 1 3 (fa 1 3)) 1 4 (fa 1 4)) 1 5 n2) la) H := hP
        have hD9 : va_D A (WX h g ca (u2 (u2 (u2 (u2 iv 1 8 (iv 1 8)) 8 3 n13) 8 4 n14) 8 5 n15) lv (u2 (u2 (u2 (u2 fa 1 2 (fa 1 2)) 1 3 (fa 1 3)) 1 4 (fa 1 4)) 1 5 n2) la) := hD
        exact W.zret (v := 0) hx hb hr rfl (fun t ht9 hW => ⟨⟨0, ((u2 (u2 (u2 (u2 iv 1 8 (iv 1 8)) 8 3 n13) 8 4 n14) 8 5 n15), lv, (u2 (u2 (u2 (u2 fa 1 2 (fa 1 2)) 1 3 (fa 1 3)) 1 4 (fa 1 4)) 1 5 n2), la), rfl, ⟨(fa 1 2), (fa 1 3), (fa 1 4), n2, (iv 1 8), n13, n14, n15, (hI.1 1 8), (show inb ((-1), 200) n13 from ⟨by omega, by omega⟩), (show inb (0, 5) n14 from ⟨by omega, by omega⟩), (show inb (0, 200) n15 from ⟨by omega, by omega⟩), (show (((0 : Int32).toInt = 0 ∧ 1 ≤ (n14 : Int32).toInt ∧ ((iv 1 8) : Int32).toInt = (iv 1 8).toInt ∧ ∃ (b kd v1 v2 : Int) (wd : Nat → Int), NamR (fun j => ((fa 8 1) j).toInt) ((iv 8 2) : Int32).toInt (iv 8 5).toInt (n14 : Int32).toInt (n13 : Int32).toInt b kd v1 v2 wd) ∨ ((0 : Int32).toInt = 1 ∧ (n14 : Int32).toInt = (iv 8 4).toInt ∧ (n13 : Int32).toInt = (iv 8 3).toInt ∧ ((iv 1 8) : Int32).toInt = (iv 1 8).toInt + 1 ∧ NamR (fun j => ((fa 8 1) j).toInt) ((iv 8 2) : Int32).toInt (iv 8 5).toInt 0 0 (n15 : Int32).toInt ((fa 1 2) (12 * ((iv 1 7).toInt).toNat + ((iv 1 8).toInt).toNat)).toInt ((fa 1 3) (12 * ((iv 1 7).toInt).toNat + ((iv 1 8).toInt).toNat)).toInt ((fa 1 4) (12 * ((iv 1 7).toInt).toNat + ((iv 1 8).toInt).toNat)).toInt (fun j => (n2 ((8 * (12 * ((iv 1 7).toInt).toNat + ((iv 1 8).toInt).toNat)) + j)).toInt))) from (by
              obtain ⟨s, e, k1, k2, k3⟩ := xr1_0
              rcases k3 with ⟨k4, -⟩ | ⟨k4, -⟩ | ⟨k4, k5, k6, k7, k8, k9⟩
              · exfalso; omega
              · exfalso; omega
              · rcases xr7_0 with ⟨n1, -⟩ | ⟨n1, n2, n3, n4⟩
                · exfalso; omega
                · rw [k7] at n4
                  obtain ⟨s2, e2, l1, l2, l3⟩ := xr12_0
                  rcases l3 with ⟨l4, l5, l6, l7⟩ | ⟨l4, -⟩
                  · exact Or.inl ⟨by omega, by omega, by omega, 0, 0, _, 0, _, s, e, k1, k2, Or.inr (Or.inr ⟨k8, k9, _, _, _, n4, Or.inr ⟨rfl, s2, e2, l1, l2, Or.inl ⟨l5, l6, l7⟩⟩⟩)⟩
                  · exfalso; omega)), (show ∀ j : Nat, (j : Int) < 12 * (iv 1 7).toInt + (iv 1 8).toInt → (fa 1 2) j = (fa 1 2) j ∧ (fa 1 3) j = (fa 1 3) j ∧ (fa 1 4) j = (fa 1 4) j from fun j hj => ⟨rfl, rfl, rfl⟩), (show ∀ j : Nat, (j : Int) < (8 * (12 * (iv 1 7).toInt + (iv 1 8).toInt)) → n2 j = (fa 1 5) j from xr1_1), ⟨by decide, by decide⟩, rfl⟩, by rw [ht9]; exact hP9, hD9⟩, hS.F ht9⟩) hS.2.2 dX8_readName_34
  · have fc6 := z_eq (rfl : (r1).toInt = _) (by decide : (0 : Int32).toInt = 0) c6
    refine lv_iconst (v := 0) hx hb dX8_readName_7 (by decide) ?_
    have : (0 : Int32).toInt = 0 := (by decide)
    have hP9 : va_P (dC, dI) classes (WX h g ca (u2 (u2 (u2 (u2 iv 1 8 (iv 1 8)) 8 3 n3) 8 4 n4) 8 5 n5) lv (u2 (u2 (u2 (u2 fa 1 2 (fa 1 2)) 1 3 (fa 1 3)) 1 4 (fa 1 4)) 1 5 n2) la) H := hP
    have hD9 : va_D A (WX h g ca (u2 (u2 (u2 (u2 iv 1 8 (iv 1 8)) 8 3 n3) 8 4 n4) 8 5 n5) lv (u2 (u2 (u2 (u2 fa 1 2 (fa 1 2)) 1 3 (fa 1 3)) 1 4 (fa 1 4)) 1 5 n2) la) := hD
    exact W.zret (v := 0) hx hb hr rfl (fun t ht9 hW => ⟨⟨0, ((u2 (u2 (u2 (u2 iv 1 8 (iv 1 8)) 8 3 n3) 8 4 n4) 8 5 n5), lv, (u2 (u2 (u2 (u2 fa 1 2 (fa 1 2)) 1 3 (fa 1 3)) 1 4 (fa 1 4)) 1 5 n2), la), rfl, ⟨(fa 1 2), (fa 1 3), (fa 1 4), n2, (iv 1 8), n3, n4, n5, (hI.1 1 8), (show inb ((-1), 200) n3 from ⟨by omega, by omega⟩), (show inb (0, 5) n4 from ⟨by omega, by omega⟩), (show inb (0, 200) n5 from ⟨by omega, by omega⟩), (show (((0 : Int32).toInt = 0 ∧ 1 ≤ (n4 : Int32).toInt ∧ ((iv 1 8) : Int32).toInt = (iv 1 8).toInt ∧ ∃ (b kd v1 v2 : Int) (wd : Nat → Int), NamR (fun j => ((fa 8 1) j).toInt) ((iv 8 2) : Int32).toInt (iv 8 5).toInt (n4 : Int32).toInt (n3 : Int32).toInt b kd v1 v2 wd) ∨ ((0 : Int32).toInt = 1 ∧ (n4 : Int32).toInt = (iv 8 4).toInt ∧ (n3 : Int32).toInt = (iv 8 3).toInt ∧ ((iv 1 8) : Int32).toInt = (iv 1 8).toInt + 1 ∧ NamR (fun j => ((fa 8 1) j).toInt) ((iv 8 2) : Int32).toInt (iv 8 5).toInt 0 0 (n5 : Int32).toInt ((fa 1 2) (12 * ((iv 1 7).toInt).toNat + ((iv 1 8).toInt).toNat)).toInt ((fa 1 3) (12 * ((iv 1 7).toInt).toNat + ((iv 1 8).toInt).toNat)).toInt ((fa 1 4) (12 * ((iv 1 7).toInt).toNat + ((iv 1 8).toInt).toNat)).toInt (fun j => (n2 ((8 * (12 * ((iv 1 7).toInt).toNat + ((iv 1 8).toInt).toNat)) + j)).toInt))) from (by
          obtain ⟨s, e, k1, k2, k3⟩ := xr1_0
          rcases k3 with ⟨k4, k5, k6, k7⟩ | ⟨k4, k5, k6, k7⟩ | ⟨k4, -⟩
          · exact Or.inl ⟨by omega, by omega, by omega, 0, 0, 0, 0, (fun _ => 0), s, e, k1, k2, Or.inl ⟨k5, k6, k7⟩⟩
          · exact Or.inl ⟨by omega, by omega, by omega, 0, 0, 0, 0, (fun _ => 0), s, e, k1, k2, Or.inr (Or.inl ⟨k5, k6, k7⟩)⟩
          · exfalso; omega)), (show ∀ j : Nat, (j : Int) < 12 * (iv 1 7).toInt + (iv 1 8).toInt → (fa 1 2) j = (fa 1 2) j ∧ (fa 1 3) j = (fa 1 3) j ∧ (fa 1 4) j = (fa 1 4) j from fun j hj => ⟨rfl, rfl, rfl⟩), (show ∀ j : Nat, (j : Int) < (8 * (12 * (iv 1 7).toInt + (iv 1 8).toInt)) → n2 j = (fa 1 5) j from xr1_1), ⟨by decide, by decide⟩, rfl⟩, by rw [ht9]; exact hP9, hD9⟩, hS.F ht9⟩) hS.2.2 dX8_readName_8
