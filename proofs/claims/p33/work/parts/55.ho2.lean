/-! ===== ho2 ===== -/
set_option maxHeartbeats 4000000 in
set_option maxRecDepth 100000 in
/-- X4_leastLeftOut -/
theorem c_X4_leastLeftOut_h (l : Launch) (dC : Nat → ClassId) (dI : Nat → Nat → Nat) (h : Nat) (g : Nat → Nat → Nat) (ca : Nat → Nat → ClassId) (iv : Nat → Nat → Int32) (lv : Nat → Nat → Int64) (fa : Nat → Nat → Nat → Int32) (la : Nat → Nat → Nat → Int64) (hI : IX iv fa) (hJP : Sp (fa 4 0) (fa 4 1) ((iv 4 2).toInt).toNat) : Met l yX4_leastLeftOut (wc yX4_leastLeftOut cX4_leastLeftOut 4 (some .int)) ({ frames := 2, cells := 0, slots := 0, locals := 63 } : Room) (pR (dC, dI) classes (WX h g ca iv lv fa la) (TX ca) [.ref (g 11 8)]) (vp_Si (fun r => (0 ≤ r.toInt ∧ r.toInt ≤ 255) ∧ (Lo (fa 4 0) (fa 4 1) ((iv 4 2).toInt).toNat r.toInt))) 0 0 (fun _ => False) := by
  refine Met.ofW (cc := cX4_leastLeftOut) (maxL := 4) (ret := (some .int)) (by decide) rfl ?_
  intro p e s m args below meth c s₁ B hml hv
  obtain ⟨rfl, hP, hK⟩ := hv
  have hx := B.exec
  have hb := B.bytes
  have hr := B.returns
  have ht := tb_tl (atoms_spec (ws := wc yX4_leastLeftOut cX4_leastLeftOut 4 (some .int)) B.pre)
  have hown : s.vm.findClass RX4 = some m.cls := findClass_of_methodNamed B.named
  have hlocks := B.notSynchronized
  have hl := lv_entry [.ref (g 11 8)] (n := 4) (Nat.le_of_ble_eq_true rfl)
  rw [lg_entry_eq]
  generalize (lg_sl [.ref (g 11 8)] ++ List.replicate (4 - (lg_sl [.ref (g 11 8)]).length) Slot.unset).toArray = ls at hl ⊢
  have hl : lv_has ls 4 [(0, .ref (g 11 8))] := hl
  refine lv_iconst (v := 1) hx hb dX4_leastLeftOut_0 (by decide) ?_
  refine lv_aload_n hx hb dX4_leastLeftOut_1 rfl (lv_at hl 0 rfl) ?_
  have i_4_2 : 0 ≤ (iv 4 2).toInt ∧ (iv 4 2).toInt ≤ 8 := hI.1 4 2
  refine gX_4_2 hx hb ht hown hK hP m_368 (v := (iv 4 2)) rfl dX4_leastLeftOut_2 ?_
  refine lv_ishl hx hb dX4_leastLeftOut_5 ?_
  refine lv_topi (fun v1 ev1 => ?_)
  have tv1 := shl1 ev1 ⟨by omega, by omega⟩
  have hs9 := sh_a (a := (iv 4 2)) ⟨by omega, by omega⟩
  rw [← ev1] at hs9
  have hp9 := p2_b (n := ((iv 4 2).toInt).toNat) (by omega)
  refine lv_iconst (v := 1) hx hb dX4_leastLeftOut_6 (by decide) ?_
  refine lv_isub hx hb dX4_leastLeftOut_7 ?_
  refine lv_topi (fun v2 ev2 => ?_)
  have tv2 := z_sub ev2 (rfl : (v1).toInt = _) (by decide : (1 : Int32).toInt = 1) (by omega) (by omega)
  refine lv_istore_n (lv' := [(1, .int v2), (0, .ref (g 11 8))]) hx hb dX4_leastLeftOut_8 rfl hl (by decide) rfl (fun ls hl => ?_)
  refine lv_iload_n hx hb dX4_leastLeftOut_9 rfl (lv_at hl 0 rfl) ?_
  refine lv_iconst (v := 1) hx hb dX4_leastLeftOut_10 (by decide) ?_
  refine lv_isub hx hb dX4_leastLeftOut_11 ?_
  refine lv_topi (fun v3 ev3 => ?_)
  have tv3 := z_sub ev3 (rfl : (v2).toInt = _) (by decide : (1 : Int32).toInt = 1) (by omega) (by omega)
  refine lv_istore_n (lv' := [(2, .int v3), (1, .int v2), (0, .ref (g 11 8))]) hx hb dX4_leastLeftOut_12 rfl hl (by decide) rfl (fun ls hl => ?_)
  have lp18 : ∀ (nn18 : Nat) (x17_2 : Int32) (x17_1 : Int32), (-1) ≤ x17_2.toInt ∧ x17_2.toInt ≤ 254 → 0 ≤ x17_1.toInt ∧ x17_1.toInt ≤ 255 → (0 ≤ (x17_1 : Int32).toInt ∧ (x17_1 : Int32).toInt < 2 ^ (((iv 4 2) : Int32).toInt).toNat ∧ Fe (fa 4 0) (fa 4 1) (((iv 4 2) : Int32).toInt).toNat (x17_1 : Int32).toInt ∧ (x17_2 : Int32).toInt < (x17_1 : Int32).toInt ∧ ∀ o : Int, (x17_2 : Int32).toInt < o → o < 2 ^ (((iv 4 2) : Int32).toInt).toNat → Fe (fa 4 0) (fa 4 1) (((iv 4 2) : Int32).toInt).toNat o → pcI (x17_1 : Int32).toInt < pcI o ∨ (pcI (x17_1 : Int32).toInt = pcI o ∧ (x17_1 : Int32).toInt ≤ o)) → -1 ≤ (x17_2 : Int32).toInt → (x17_2 : Int32).toInt ≤ 254 → (x17_1 : Int32).toInt ≤ 255 → 0 ≤ (x17_1 : Int32).toInt → x17_2.toInt - (-1) < (nn18 : Int) → ∀ (ls : Array Slot), lv_has ls 4 [(2, .int x17_2), (1, .int x17_1), (0, .ref (g 11 8))] → W p l e ({ frames := 2, cells := 0, slots := 0, locals := 63 } : Room) s m ([.ref (g 11 8)] : List Value).toArray below meth c s.heap [] 0 0 (MQ below (vp_Si (fun r => (0 ≤ r.toInt ∧ r.toInt ≤ 255) ∧ (Lo (fa 4 0) (fa 4 1) ((iv 4 2).toInt).toNat r.toInt))) ([.ref (g 11 8)] : List Value).toArray s 0 0 (fun _ => False)) (F0 m 13 ls []) := by
    intro nn18
    induction nn18 with
    | zero => intro x17_2 x17_1 hx17_2 hx17_1 hq18_0 hq18_1 hq18_2 hq18_3 hq18_4 hm18; exfalso; omega
    | succ nn18 ih18 =>
      intro x17_2 x17_1 hx17_2 hx17_1 hq18_0 hq18_1 hq18_2 hq18_3 hq18_4 hm18 ls hl
      refine lv_iload_n hx hb dX4_leastLeftOut_13 rfl (lv_at hl 0 rfl) ?_
      refine lv_if_lt (tgt := 59) hx hb dX4_leastLeftOut_14 (by decide) (fun c19 => ?_) (fun c19 => ?_)
      · have fc19 := z_lt (rfl : (x17_2).toInt = _) (by decide : (0 : Int32).toInt = 0) c19
        refine lv_iload_n hx hb dX4_leastLeftOut_59 rfl (lv_at hl 1 rfl) ?_
        exact W.iret (v := x17_1) hx hb hr (fun t ht9 hW => ⟨x17_1, rfl, ⟨⟨by omega, by omega⟩, (show Lo (fa 4 0) (fa 4 1) (((iv 4 2) : Int32).toInt).toNat (x17_1 : Int32).toInt from (by obtain ⟨q1, q2, q3, q4, q5⟩ := hq18_0; exact ⟨q1, q2, q3, fun o h1 h2 h3 => q5 o (by omega) h2 h3⟩))⟩, ht9⟩) (fun q hq => by cases hq) dX4_leastLeftOut_60
      · have fc19 := z_nlt (rfl : (x17_2).toInt = _) (by decide : (0 : Int32).toInt = 0) c19
        refine lv_iload_n hx hb dX4_leastLeftOut_17 rfl (lv_at hl 0 rfl) ?_
        have : 0 ≤ (x17_2 : Int32).toInt ∧ (x17_2 : Int32).toInt ≤ 255 := ⟨by omega, by omega⟩
        refine vp_callSi (W.runS (As := [.int x17_2]) (rest := []) ⟨hx, hb, hml, hown, ht⟩ (c_J6_bitCount_0f7a4_h l dC dI x17_2 ⟨by omega, by omega⟩) (kS2 1 ht m_1050 m_1051 m_96 m_1052 rfl rfl hd_J6_bitCount_0f7a4_i ⟨Nat.le_of_ble_eq_true rfl, Nat.le_of_ble_eq_true rfl⟩) (sR noP (hK.sub (tys' := []) [] rfl)) rfl rfl hl.1 rfl (lv_room (Nat.le_of_ble_eq_true rfl)) dX4_leastLeftOut_18 ⟨Nat.le_of_ble_eq_true rfl, Nat.le_of_ble_eq_true rfl⟩) (fun r20 hr20 => ?_)
        obtain ⟨hr20, xr20_0⟩ := hr20
        have xr20_0 : (r20 : Int32).toInt = pcI (x17_2 : Int32).toInt := xr20_0
        refine lv_iload_n hx hb dX4_leastLeftOut_21 rfl (lv_at hl 1 rfl) ?_
        have : 0 ≤ (x17_1 : Int32).toInt ∧ (x17_1 : Int32).toInt ≤ 255 := ⟨by omega, by omega⟩
        refine vp_callSi (W.runS (As := [.int x17_1]) (rest := [.int r20]) ⟨hx, hb, hml, hown, ht⟩ (c_J6_bitCount_0f7a4_h l dC dI x17_1 ⟨by omega, by omega⟩) (kS2 1 ht m_1050 m_1051 m_96 m_1052 rfl rfl hd_J6_bitCount_0f7a4_i ⟨Nat.le_of_ble_eq_true rfl, Nat.le_of_ble_eq_true rfl⟩) (sR noP (hK.sub (tys' := []) [] rfl)) rfl rfl hl.1 rfl (lv_room (Nat.le_of_ble_eq_true rfl)) dX4_leastLeftOut_22 ⟨Nat.le_of_ble_eq_true rfl, Nat.le_of_ble_eq_true rfl⟩) (fun r21 hr21 => ?_)
        obtain ⟨hr21, xr21_0⟩ := hr21
        have xr21_0 : (r21 : Int32).toInt = pcI (x17_1 : Int32).toInt := xr21_0
        refine lv_icmp_gt (tgt := 32) hx hb dX4_leastLeftOut_25 (by decide) (fun c22 => ?_) (fun c22 => ?_)
        · have fc22 := z_lt (rfl : (r21).toInt = _) (rfl : (r20).toInt = _) c22
          refine lv_iconst (v := 0) hx hb dX4_leastLeftOut_32 (by decide) ?_
          refine lv_istore_n (lv' := [(3, .int 0), (2, .int x17_2), (1, .int x17_1), (0, .ref (g 11 8))]) hx hb dX4_leastLeftOut_33 rfl hl (by decide) rfl (fun ls hl => ?_)
          refine lv_iload_n hx hb dX4_leastLeftOut_34 rfl (lv_at hl 0 rfl) ?_
          refine lv_if_eq (tgt := 53) hx hb dX4_leastLeftOut_35 (by decide) (fun c23 => ?_) (fun c23 => ?_)
          · skip
            obtain ⟨v24, ev24⟩ : ∃ y : Int32, y = x17_2 + (-1) := ⟨_, rfl⟩
            have tv24 := z_add ev24 rfl (by decide : ((-1) : Int32).toInt = (-1)) (by omega) (by omega)
            refine lv_iinc (v := v24) (lv' := [(2, .int v24), (3, .int 0), (1, .int x17_1), (0, .ref (g 11 8))]) hx hb dX4_leastLeftOut_53 hl (k := 1) rfl (by rw [ev24]; rfl) (by decide) rfl (fun ls hl => ?_)
            refine lv_goto (tgt := 13) hx hb dX4_leastLeftOut_56 (by decide) ?_
            exact ih18 v24 x17_1 ⟨by omega, by omega⟩ ⟨by omega, by omega⟩ (show 0 ≤ (x17_1 : Int32).toInt ∧ (x17_1 : Int32).toInt < 2 ^ (((iv 4 2) : Int32).toInt).toNat ∧ Fe (fa 4 0) (fa 4 1) (((iv 4 2) : Int32).toInt).toNat (x17_1 : Int32).toInt ∧ (v24 : Int32).toInt < (x17_1 : Int32).toInt ∧ ∀ o : Int, (v24 : Int32).toInt < o → o < 2 ^ (((iv 4 2) : Int32).toInt).toNat → Fe (fa 4 0) (fa 4 1) (((iv 4 2) : Int32).toInt).toNat o → pcI (x17_1 : Int32).toInt < pcI o ∨ (pcI (x17_1 : Int32).toInt = pcI o ∧ (x17_1 : Int32).toInt ≤ o) from (by
                  obtain ⟨q1, q2, q3, q4, q5⟩ := hq18_0
                  refine ⟨q1, q2, q3, by omega, fun o h1 h2 h3 => ?_⟩
                  by_cases ho : o = (x17_2 : Int32).toInt
                  · rw [ho] at h3 ⊢
                    exact Or.inl (by omega)
                  · exact q5 o (by omega) h2 h3)) (show -1 ≤ (v24 : Int32).toInt from by omega) (show (v24 : Int32).toInt ≤ 254 from by omega) (show (x17_1 : Int32).toInt ≤ 255 from by omega) (show 0 ≤ (x17_1 : Int32).toInt from by omega) (by omega) ls (lv_sub hl [0, 2, 3] rfl)
          · exact absurd rfl c23
        · have fc22 := z_nlt (rfl : (r21).toInt = _) (rfl : (r20).toInt = _) c22
          refine lv_iconst (v := 1) hx hb dX4_leastLeftOut_28 (by decide) ?_
          refine lv_goto (tgt := 33) hx hb dX4_leastLeftOut_29 (by decide) ?_
          refine lv_istore_n (lv' := [(3, .int 1), (2, .int x17_2), (1, .int x17_1), (0, .ref (g 11 8))]) hx hb dX4_leastLeftOut_33 rfl hl (by decide) rfl (fun ls hl => ?_)
          refine lv_iload_n hx hb dX4_leastLeftOut_34 rfl (lv_at hl 0 rfl) ?_
          refine lv_if_eq (tgt := 53) hx hb dX4_leastLeftOut_35 (by decide) (fun c25 => ?_) (fun c25 => ?_)
          · exact absurd c25 (by decide)
          · skip
            refine lv_aload_n hx hb dX4_leastLeftOut_38 rfl (lv_at hl 3 rfl) ?_
            refine lv_iload_n hx hb dX4_leastLeftOut_39 rfl (lv_at hl 1 rfl) ?_
            refine vp_callSi (W.runV (As := [.int x17_2]) (rest := []) ⟨hx, hb, hml, hown, ht⟩ (c_X4_leastWithout_h l dC dI h g ca iv lv fa la hI x17_2) (kV 1 ht m_1056 m_1057 m_1058 m_87 m_1059 rfl rfl hd_X4_leastWithout_v ⟨Nat.le_of_ble_eq_true rfl, Nat.le_of_ble_eq_true rfl⟩) (vR hP hK (rX_4 hK hP)) rfl rfl hl.1 rfl (lv_room (Nat.le_of_ble_eq_true rfl)) dX4_leastLeftOut_40 ⟨Nat.le_of_ble_eq_true rfl, Nat.le_of_ble_eq_true rfl⟩) (fun r26 hr26 => ?_)
            obtain ⟨hr26, xr26_0⟩ := hr26
            have xr26_0 : Mx (fa 4 0) (x17_2 : Int32).toInt (((iv 4 2) : Int32).toInt).toNat (-1000000) (r26 : Int32).toInt := xr26_0
            refine lv_aload_n hx hb dX4_leastLeftOut_43 rfl (lv_at hl 3 rfl) ?_
            refine lv_iload_n hx hb dX4_leastLeftOut_44 rfl (lv_at hl 1 rfl) ?_
            refine vp_callSi (W.runV (As := [.int x17_2]) (rest := [.int r26]) ⟨hx, hb, hml, hown, ht⟩ (c_X4_greatestWithout_h l dC dI h g ca iv lv fa la hI x17_2) (kV 1 ht m_1062 m_1063 m_1064 m_87 m_1065 rfl rfl hd_X4_greatestWithout_v ⟨Nat.le_of_ble_eq_true rfl, Nat.le_of_ble_eq_true rfl⟩) (vR hP hK (rX_4 hK hP)) rfl rfl hl.1 rfl (lv_room (Nat.le_of_ble_eq_true rfl)) dX4_leastLeftOut_45 ⟨Nat.le_of_ble_eq_true rfl, Nat.le_of_ble_eq_true rfl⟩) (fun r27 hr27 => ?_)
            obtain ⟨hr27, xr27_0⟩ := hr27
            have xr27_0 : Mn (fa 4 1) (x17_2 : Int32).toInt (((iv 4 2) : Int32).toInt).toNat (1000000) (r27 : Int32).toInt := xr27_0
            refine lv_icmp_gt (tgt := 53) hx hb dX4_leastLeftOut_48 (by decide) (fun c28 => ?_) (fun c28 => ?_)
            · have fc28 := z_lt (rfl : (r27).toInt = _) (rfl : (r26).toInt = _) c28
              obtain ⟨v29, ev29⟩ : ∃ y : Int32, y = x17_2 + (-1) := ⟨_, rfl⟩
              have tv29 := z_add ev29 rfl (by decide : ((-1) : Int32).toInt = (-1)) (by omega) (by omega)
              refine lv_iinc (v := v29) (lv' := [(2, .int v29), (3, .int 1), (1, .int x17_1), (0, .ref (g 11 8))]) hx hb dX4_leastLeftOut_53 hl (k := 1) rfl (by rw [ev29]; rfl) (by decide) rfl (fun ls hl => ?_)
              refine lv_goto (tgt := 13) hx hb dX4_leastLeftOut_56 (by decide) ?_
              exact ih18 v29 x17_1 ⟨by omega, by omega⟩ ⟨by omega, by omega⟩ (show 0 ≤ (x17_1 : Int32).toInt ∧ (x17_1 : Int32).toInt < 2 ^ (((iv 4 2) : Int32).toInt).toNat ∧ Fe (fa 4 0) (fa 4 1) (((iv 4 2) : Int32).toInt).toNat (x17_1 : Int32).toInt ∧ (v29 : Int32).toInt < (x17_1 : Int32).toInt ∧ ∀ o : Int, (v29 : Int32).toInt < o → o < 2 ^ (((iv 4 2) : Int32).toInt).toNat → Fe (fa 4 0) (fa 4 1) (((iv 4 2) : Int32).toInt).toNat o → pcI (x17_1 : Int32).toInt < pcI o ∨ (pcI (x17_1 : Int32).toInt = pcI o ∧ (x17_1 : Int32).toInt ≤ o) from (by
                    obtain ⟨q1, q2, q3, q4, q5⟩ := hq18_0
                    have hf9 := Fe_iff hJP (by decide) xr26_0 xr27_0
                    refine ⟨q1, q2, q3, by omega, fun o h1 h2 h3 => ?_⟩
                    by_cases ho : o = (x17_2 : Int32).toInt
                    · rw [ho] at h3 ⊢
                      have z := hf9.mpr h3
                      exfalso; omega
                    · exact q5 o (by omega) h2 h3)) (show -1 ≤ (v29 : Int32).toInt from by omega) (show (v29 : Int32).toInt ≤ 254 from by omega) (show (x17_1 : Int32).toInt ≤ 255 from by omega) (show 0 ≤ (x17_1 : Int32).toInt from by omega) (by omega) ls (lv_sub hl [0, 2, 3] rfl)
            · have fc28 := z_nlt (rfl : (r27).toInt = _) (rfl : (r26).toInt = _) c28
              refine lv_iload_n hx hb dX4_leastLeftOut_51 rfl (lv_at hl 1 rfl) ?_
              refine lv_istore_n (lv' := [(1, .int x17_2), (3, .int 1), (2, .int x17_2), (0, .ref (g 11 8))]) hx hb dX4_leastLeftOut_52 rfl hl (by decide) rfl (fun ls hl => ?_)
              obtain ⟨v30, ev30⟩ : ∃ y : Int32, y = x17_2 + (-1) := ⟨_, rfl⟩
              have tv30 := z_add ev30 rfl (by decide : ((-1) : Int32).toInt = (-1)) (by omega) (by omega)
              refine lv_iinc (v := v30) (lv' := [(2, .int v30), (1, .int x17_2), (3, .int 1), (0, .ref (g 11 8))]) hx hb dX4_leastLeftOut_53 hl (k := 2) rfl (by rw [ev30]; rfl) (by decide) rfl (fun ls hl => ?_)
              refine lv_goto (tgt := 13) hx hb dX4_leastLeftOut_56 (by decide) ?_
              exact ih18 v30 x17_2 ⟨by omega, by omega⟩ ⟨by omega, by omega⟩ (show 0 ≤ (x17_2 : Int32).toInt ∧ (x17_2 : Int32).toInt < 2 ^ (((iv 4 2) : Int32).toInt).toNat ∧ Fe (fa 4 0) (fa 4 1) (((iv 4 2) : Int32).toInt).toNat (x17_2 : Int32).toInt ∧ (v30 : Int32).toInt < (x17_2 : Int32).toInt ∧ ∀ o : Int, (v30 : Int32).toInt < o → o < 2 ^ (((iv 4 2) : Int32).toInt).toNat → Fe (fa 4 0) (fa 4 1) (((iv 4 2) : Int32).toInt).toNat o → pcI (x17_2 : Int32).toInt < pcI o ∨ (pcI (x17_2 : Int32).toInt = pcI o ∧ (x17_2 : Int32).toInt ≤ o) from (by
                    obtain ⟨q1, q2, q3, q4, q5⟩ := hq18_0
                    have hf9 := Fe_iff hJP (by decide) xr26_0 xr27_0
                    have hf8 := hf9.mp (by omega)
                    refine ⟨by omega, by omega, hf8, by omega, fun o h1 h2 h3 => ?_⟩
                    by_cases ho : o = (x17_2 : Int32).toInt
                    · rw [ho]; exact Or.inr ⟨rfl, Int.le_refl _⟩
                    · have z := q5 o (by omega) h2 h3
                      omega)) (show -1 ≤ (v30 : Int32).toInt from by omega) (show (v30 : Int32).toInt ≤ 254 from by omega) (show (x17_2 : Int32).toInt ≤ 255 from by omega) (show 0 ≤ (x17_2 : Int32).toInt from by omega) (by omega) ls (lv_sub hl [0, 1, 3] rfl)
  exact lp18 256 v3 v2 ⟨by omega, by omega⟩ ⟨by omega, by omega⟩ (show 0 ≤ (v2 : Int32).toInt ∧ (v2 : Int32).toInt < 2 ^ (((iv 4 2) : Int32).toInt).toNat ∧ Fe (fa 4 0) (fa 4 1) (((iv 4 2) : Int32).toInt).toNat (v2 : Int32).toInt ∧ (v3 : Int32).toInt < (v2 : Int32).toInt ∧ ∀ o : Int, (v3 : Int32).toInt < o → o < 2 ^ (((iv 4 2) : Int32).toInt).toNat → Fe (fa 4 0) (fa 4 1) (((iv 4 2) : Int32).toInt).toNat o → pcI (v2 : Int32).toInt < pcI o ∨ (pcI (v2 : Int32).toInt = pcI o ∧ (v2 : Int32).toInt ≤ o) from (by
        have he9 : (v2 : Int32).toInt = 2 ^ ((iv 4 2).toInt).toNat - 1 := by omega
        refine ⟨by omega, by omega, by rw [he9]; exact Fe_all (by omega), by omega, fun o h1 h2 h3 => ?_⟩
        have ho : o = (v2 : Int32).toInt := by omega
        exact Or.inr ⟨by rw [ho], by omega⟩)) (show -1 ≤ (v3 : Int32).toInt from by omega) (show (v3 : Int32).toInt ≤ 254 from by omega) (show (v2 : Int32).toInt ≤ 255 from by omega) (show 0 ≤ (v2 : Int32).toInt from by omega) (by first | decide | omega) ls (lv_sub hl [0, 1, 2] rfl)
set_option maxHeartbeats 4000000 in
set_option maxRecDepth 100000 in
/-- X11_houses -/
theorem c_X11_houses_h (l : Launch) (dC : Nat → ClassId) (dI : Nat → Nat → Nat) (h : Nat) (g : Nat → Nat → Nat) (ca : Nat → Nat → ClassId) (iv : Nat → Nat → Int32) (lv : Nat → Nat → Int64) (fa : Nat → Nat → Nat → Int32) (la : Nat → Nat → Nat → Int64) (hI : IX iv fa) (a : Int32) (hJP : Sp (fa 4 0) (fa 4 1) ((iv 4 2).toInt).toNat) : Met l yX11_houses (wc yX11_houses cX11_houses 3 (some .int)) ({ frames := 3, cells := 0, slots := 0, locals := 86 } : Room) (pR (dC, dI) classes (WX h g ca iv lv fa la) (TX ca) [.ref h, .int a]) (vp_Si (fun r => (True) ∧ (((r.toInt = -100002 ∧ ¬ (0 ≤ a.toInt ∧ a.toInt ≤ 2)) ∨ (r.toInt = -100003 ∧ (0 ≤ a.toInt ∧ a.toInt ≤ 2) ∧ (iv 4 2).toInt = 0) ∨ ((0 ≤ a.toInt ∧ a.toInt ≤ 2) ∧ 0 < (iv 4 2).toInt ∧ ∃ b : Int, Lo (fa 4 0) (fa 4 1) ((iv 4 2).toInt).toNat b ∧ ((a.toInt = 2 ∧ r.toInt = b) ∨ (a.toInt = 0 ∧ Mx (fa 4 0) b ((iv 4 2).toInt).toNat (-1000000) r.toInt) ∨ (a.toInt = 1 ∧ Mn (fa 4 1) b ((iv 4 2).toInt).toNat 1000000 r.toInt))))))) 0 0 (fun _ => False) := by
  refine Met.ofW (cc := cX11_houses) (maxL := 3) (ret := (some .int)) (by decide) rfl ?_
  intro p e s m args below meth c s₁ B hml hv
  obtain ⟨rfl, hP, hK⟩ := hv
  have hx := B.exec
  have hb := B.bytes
  have hr := B.returns
  have ht := tb_tl (atoms_spec (ws := wc yX11_houses cX11_houses 3 (some .int)) B.pre)
  have hown : s.vm.findClass RX11 = some m.cls := findClass_of_methodNamed B.named
  have hlocks := B.notSynchronized
  have hl := lv_entry [.ref h, .int a] (n := 3) (Nat.le_of_ble_eq_true rfl)
  rw [lg_entry_eq]
  generalize (lg_sl [.ref h, .int a] ++ List.replicate (3 - (lg_sl [.ref h, .int a]).length) Slot.unset).toArray = ls at hl ⊢
  have hl : lv_has ls 3 [(0, .ref h), (1, .int a)] := hl
  refine lv_iload_n hx hb dX11_houses_0 rfl (lv_at hl 1 rfl) ?_
  refine lv_iconst (v := 0) hx hb dX11_houses_1 (by decide) ?_
  refine lv_iconst (v := 2) hx hb dX11_houses_2 (by decide) ?_
  refine vp_callSi (W.runS (As := [.int a, .int 0, .int 2]) (rest := []) ⟨hx, hb, hml, hown, ht⟩ (c_X11_within l dC dI a 0 2 (a.toInt) (0) (2) (rfl : (a).toInt = _) (by decide : (0 : Int32).toInt = 0) (by decide : (2 : Int32).toInt = 2)) (kS 3 ht m_453 m_454 m_77 m_455 rfl rfl hd_X11_within_v ⟨Nat.le_of_ble_eq_true rfl, Nat.le_of_ble_eq_true rfl⟩) (sR noP (hK.sub (tys' := []) [] rfl)) rfl rfl hl.1 rfl (lv_room (Nat.le_of_ble_eq_true rfl)) dX11_houses_3 ⟨Nat.le_of_ble_eq_true rfl, Nat.le_of_ble_eq_true rfl⟩) (fun r1 hr1 => ?_)
  rcases hr1 with ⟨rfl, fr1⟩ | ⟨rfl, fr1⟩
  · skip
    refine lv_if_ne (tgt := 12) hx hb dX11_houses_6 (by decide) (fun c2 => ?_) (fun c2 => ?_)
    · skip
      refine lv_aload_n hx hb dX11_houses_12 rfl (lv_at hl 0 rfl) ?_
      refine gX_11_8 hx hb ht hown hK hP m_423 dX11_houses_13 ?_
      have i_4_2 : 0 ≤ (iv 4 2).toInt ∧ (iv 4 2).toInt ≤ 8 := hI.1 4 2
      refine gX_4_2 hx hb ht hown hK hP m_369 (v := (iv 4 2)) rfl dX11_houses_16 ?_
      refine lv_if_ne (tgt := 25) hx hb dX11_houses_19 (by decide) (fun c3 => ?_) (fun c3 => ?_)
      · have fc3 := z_ne (rfl : ((iv 4 2)).toInt = _) (by decide : (0 : Int32).toInt = 0) c3
        refine lv_aload_n hx hb dX11_houses_25 rfl (lv_at hl 0 rfl) ?_
        refine gX_11_8 hx hb ht hown hK hP m_423 dX11_houses_26 ?_
        refine vp_callSi (W.runV (As := []) (rest := []) ⟨hx, hb, hml, hown, ht⟩ (c_X4_leastLeftOut_h l dC dI h g ca iv lv fa la hI hJP) (kV 0 ht m_1046 m_1047 m_1048 m_87 m_1049 rfl rfl hd_X4_leastLeftOut_v ⟨Nat.le_of_ble_eq_true rfl, Nat.le_of_ble_eq_true rfl⟩) (vR hP hK (rX_4 hK hP)) rfl rfl hl.1 rfl (lv_room (Nat.le_of_ble_eq_true rfl)) dX11_houses_29 ⟨Nat.le_of_ble_eq_true rfl, Nat.le_of_ble_eq_true rfl⟩) (fun r4 hr4 => ?_)
        obtain ⟨hr4, xr4_0⟩ := hr4
        have xr4_0 : Lo (fa 4 0) (fa 4 1) (((iv 4 2) : Int32).toInt).toNat (r4 : Int32).toInt := xr4_0
        refine lv_istore_n (lv' := [(2, .int r4), (0, .ref h), (1, .int a)]) hx hb dX11_houses_32 rfl hl (by decide) rfl (fun ls hl => ?_)
        refine lv_iload_n hx hb dX11_houses_33 rfl (lv_at hl 2 rfl) ?_
        refine lv_iconst (v := 2) hx hb dX11_houses_34 (by decide) ?_
        refine lv_icmp_ne (tgt := 40) hx hb dX11_houses_35 (by decide) (fun c5 => ?_) (fun c5 => ?_)
        · have fc5 := z_ne (rfl : (a).toInt = _) (by decide : (2 : Int32).toInt = 2) c5
          refine lv_iload_n hx hb dX11_houses_40 rfl (lv_at hl 2 rfl) ?_
          refine lv_if_ne (tgt := 55) hx hb dX11_houses_41 (by decide) (fun c6 => ?_) (fun c6 => ?_)
          · have fc6 := z_ne (rfl : (a).toInt = _) (by decide : (0 : Int32).toInt = 0) c6
            refine lv_aload_n hx hb dX11_houses_55 rfl (lv_at hl 1 rfl) ?_
            refine gX_11_8 hx hb ht hown hK hP m_423 dX11_houses_56 ?_
            refine lv_iload_n hx hb dX11_houses_59 rfl (lv_at hl 0 rfl) ?_
            refine vp_callSi (W.runV (As := [.int r4]) (rest := []) ⟨hx, hb, hml, hown, ht⟩ (c_X4_greatestWithout_h l dC dI h g ca iv lv fa la hI r4) (kV 1 ht m_1069 m_1063 m_1064 m_87 m_1065 rfl rfl hd_X4_greatestWithout_v ⟨Nat.le_of_ble_eq_true rfl, Nat.le_of_ble_eq_true rfl⟩) (vR hP hK (rX_4 hK hP)) rfl rfl hl.1 rfl (lv_room (Nat.le_of_ble_eq_true rfl)) dX11_houses_60 ⟨Nat.le_of_ble_eq_true rfl, Nat.le_of_ble_eq_true rfl⟩) (fun r7 hr7 => ?_)
            obtain ⟨hr7, xr7_0⟩ := hr7
            have xr7_0 : Mn (fa 4 1) (r4 : Int32).toInt (((iv 4 2) : Int32).toInt).toNat (1000000) (r7 : Int32).toInt := xr7_0
            exact W.iret (v := r7) hx hb hr (fun t ht9 hW => ⟨r7, rfl, ⟨trivial, (show (((r7 : Int32).toInt = -100002 ∧ ¬ (0 ≤ (a).toInt ∧ (a).toInt ≤ 2)) ∨ ((r7 : Int32).toInt = -100003 ∧ (0 ≤ (a).toInt ∧ (a).toInt ≤ 2) ∧ ((iv 4 2) : Int32).toInt = 0) ∨ ((0 ≤ (a).toInt ∧ (a).toInt ≤ 2) ∧ 0 < ((iv 4 2) : Int32).toInt ∧ ∃ b : Int, Lo (fa 4 0) (fa 4 1) (((iv 4 2) : Int32).toInt).toNat b ∧ (((a).toInt = 2 ∧ (r7 : Int32).toInt = b) ∨ ((a).toInt = 0 ∧ Mx (fa 4 0) b (((iv 4 2) : Int32).toInt).toNat (-1000000) (r7 : Int32).toInt) ∨ ((a).toInt = 1 ∧ Mn (fa 4 1) b (((iv 4 2) : Int32).toInt).toNat 1000000 (r7 : Int32).toInt)))) from Or.inr (Or.inr ⟨⟨by omega, by omega⟩, by omega, _, xr4_0, Or.inr (Or.inr ⟨by omega, xr7_0⟩)⟩))⟩, ht9⟩) (fun q hq => by cases hq) dX11_houses_63
          · have fc6 := z_eq (rfl : (a).toInt = _) (by decide : (0 : Int32).toInt = 0) c6
            refine lv_aload_n hx hb dX11_houses_44 rfl (lv_at hl 1 rfl) ?_
            refine gX_11_8 hx hb ht hown hK hP m_423 dX11_houses_45 ?_
            refine lv_iload_n hx hb dX11_houses_48 rfl (lv_at hl 0 rfl) ?_
            refine vp_callSi (W.runV (As := [.int r4]) (rest := []) ⟨hx, hb, hml, hown, ht⟩ (c_X4_leastWithout_h l dC dI h g ca iv lv fa la hI r4) (kV 1 ht m_1068 m_1057 m_1058 m_87 m_1059 rfl rfl hd_X4_leastWithout_v ⟨Nat.le_of_ble_eq_true rfl, Nat.le_of_ble_eq_true rfl⟩) (vR hP hK (rX_4 hK hP)) rfl rfl hl.1 rfl (lv_room (Nat.le_of_ble_eq_true rfl)) dX11_houses_49 ⟨Nat.le_of_ble_eq_true rfl, Nat.le_of_ble_eq_true rfl⟩) (fun r8 hr8 => ?_)
            obtain ⟨hr8, xr8_0⟩ := hr8
            have xr8_0 : Mx (fa 4 0) (r4 : Int32).toInt (((iv 4 2) : Int32).toInt).toNat (-1000000) (r8 : Int32).toInt := xr8_0
            refine lv_goto (tgt := 63) hx hb dX11_houses_52 (by decide) ?_
            exact W.iret (v := r8) hx hb hr (fun t ht9 hW => ⟨r8, rfl, ⟨trivial, (show (((r8 : Int32).toInt = -100002 ∧ ¬ (0 ≤ (a).toInt ∧ (a).toInt ≤ 2)) ∨ ((r8 : Int32).toInt = -100003 ∧ (0 ≤ (a).toInt ∧ (a).toInt ≤ 2) ∧ ((iv 4 2) : Int32).toInt = 0) ∨ ((0 ≤ (a).toInt ∧ (a).toInt ≤ 2) ∧ 0 < ((iv 4 2) : Int32).toInt ∧ ∃ b : Int, Lo (fa 4 0) (fa 4 1) (((iv 4 2) : Int32).toInt).toNat b ∧ (((a).toInt = 2 ∧ (r8 : Int32).toInt = b) ∨ ((a).toInt = 0 ∧ Mx (fa 4 0) b (((iv 4 2) : Int32).toInt).toNat (-1000000) (r8 : Int32).toInt) ∨ ((a).toInt = 1 ∧ Mn (fa 4 1) b (((iv 4 2) : Int32).toInt).toNat 1000000 (r8 : Int32).toInt)))) from Or.inr (Or.inr ⟨⟨by omega, by omega⟩, by omega, _, xr4_0, Or.inr (Or.inl ⟨by omega, xr8_0⟩)⟩))⟩, ht9⟩) (fun q hq => by cases hq) dX11_houses_63
        · have fc5 := z_eq (rfl : (a).toInt = _) (by decide : (2 : Int32).toInt = 2) c5
          refine lv_iload_n hx hb dX11_houses_38 rfl (lv_at hl 0 rfl) ?_
          exact W.iret (v := r4) hx hb hr (fun t ht9 hW => ⟨r4, rfl, ⟨trivial, (show (((r4 : Int32).toInt = -100002 ∧ ¬ (0 ≤ (a).toInt ∧ (a).toInt ≤ 2)) ∨ ((r4 : Int32).toInt = -100003 ∧ (0 ≤ (a).toInt ∧ (a).toInt ≤ 2) ∧ ((iv 4 2) : Int32).toInt = 0) ∨ ((0 ≤ (a).toInt ∧ (a).toInt ≤ 2) ∧ 0 < ((iv 4 2) : Int32).toInt ∧ ∃ b : Int, Lo (fa 4 0) (fa 4 1) (((iv 4 2) : Int32).toInt).toNat b ∧ (((a).toInt = 2 ∧ (r4 : Int32).toInt = b) ∨ ((a).toInt = 0 ∧ Mx (fa 4 0) b (((iv 4 2) : Int32).toInt).toNat (-1000000) (r4 : Int32).toInt) ∨ ((a).toInt = 1 ∧ Mn (fa 4 1) b (((iv 4 2) : Int32).toInt).toNat 1000000 (r4 : Int32).toInt)))) from Or.inr (Or.inr ⟨⟨by omega, by omega⟩, by omega, _, xr4_0, Or.inl ⟨by omega, rfl⟩⟩))⟩, ht9⟩) (fun q hq => by cases hq) dX11_houses_39
      · have fc3 := z_eq (rfl : ((iv 4 2)).toInt = _) (by decide : (0 : Int32).toInt = 0) c3
        refine lv_ldc hx hb hown (ht _ m_457) dX11_houses_22 ?_
        have : ((-100003) : Int32).toInt = (-100003) := (by decide)
        exact W.iret (v := (-100003)) hx hb hr (fun t ht9 hW => ⟨(-100003), rfl, ⟨trivial, (show ((((-100003) : Int32).toInt = -100002 ∧ ¬ (0 ≤ (a).toInt ∧ (a).toInt ≤ 2)) ∨ (((-100003) : Int32).toInt = -100003 ∧ (0 ≤ (a).toInt ∧ (a).toInt ≤ 2) ∧ ((iv 4 2) : Int32).toInt = 0) ∨ ((0 ≤ (a).toInt ∧ (a).toInt ≤ 2) ∧ 0 < ((iv 4 2) : Int32).toInt ∧ ∃ b : Int, Lo (fa 4 0) (fa 4 1) (((iv 4 2) : Int32).toInt).toNat b ∧ (((a).toInt = 2 ∧ ((-100003) : Int32).toInt = b) ∨ ((a).toInt = 0 ∧ Mx (fa 4 0) b (((iv 4 2) : Int32).toInt).toNat (-1000000) ((-100003) : Int32).toInt) ∨ ((a).toInt = 1 ∧ Mn (fa 4 1) b (((iv 4 2) : Int32).toInt).toNat 1000000 ((-100003) : Int32).toInt)))) from Or.inr (Or.inl ⟨by omega, ⟨by omega, by omega⟩, by omega⟩))⟩, ht9⟩) (fun q hq => by cases hq) dX11_houses_24
    · exact absurd c2 (by decide)
  · skip
    refine lv_if_ne (tgt := 12) hx hb dX11_houses_6 (by decide) (fun c9 => ?_) (fun c9 => ?_)
    · exact absurd rfl c9
    · skip
      refine lv_ldc hx hb hown (ht _ m_456) dX11_houses_9 ?_
      have : ((-100002) : Int32).toInt = (-100002) := (by decide)
      have i_4_2 : 0 ≤ (iv 4 2).toInt ∧ (iv 4 2).toInt ≤ 8 := hI.1 4 2
      exact W.iret (v := (-100002)) hx hb hr (fun t ht9 hW => ⟨(-100002), rfl, ⟨trivial, (show ((((-100002) : Int32).toInt = -100002 ∧ ¬ (0 ≤ (a).toInt ∧ (a).toInt ≤ 2)) ∨ (((-100002) : Int32).toInt = -100003 ∧ (0 ≤ (a).toInt ∧ (a).toInt ≤ 2) ∧ ((iv 4 2) : Int32).toInt = 0) ∨ ((0 ≤ (a).toInt ∧ (a).toInt ≤ 2) ∧ 0 < ((iv 4 2) : Int32).toInt ∧ ∃ b : Int, Lo (fa 4 0) (fa 4 1) (((iv 4 2) : Int32).toInt).toNat b ∧ (((a).toInt = 2 ∧ ((-100002) : Int32).toInt = b) ∨ ((a).toInt = 0 ∧ Mx (fa 4 0) b (((iv 4 2) : Int32).toInt).toNat (-1000000) ((-100002) : Int32).toInt) ∨ ((a).toInt = 1 ∧ Mn (fa 4 1) b (((iv 4 2) : Int32).toInt).toNat 1000000 ((-100002) : Int32).toInt)))) from Or.inl ⟨by omega, by omega⟩)⟩, ht9⟩) (fun q hq => by cases hq) dX11_houses_11
