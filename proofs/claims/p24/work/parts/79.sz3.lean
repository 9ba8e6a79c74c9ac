/-! ===== sz3 ===== -/
set_option maxHeartbeats 4000000 in
set_option maxRecDepth 100000 in
/-- X12_size -/
theorem c_X12_size_z (l : Launch) (dC : Nat → ClassId) (dI : Nat → Nat → Nat) (sz : Nat) (h : Nat) (g : Nat → Nat → Nat) (ca : Nat → Nat → ClassId) (iv : Nat → Nat → Int32) (lv : Nat → Nat → Int64) (fa : Nat → Nat → Nat → Int32) (la : Nat → Nat → Nat → Int64) (hI : IX iv fa) (a : Int32) (b : Int32) (hJV : ∀ j : Nat, 0 ≤ (fa 12 52 j).toInt ∧ (fa 12 52 j).toInt ≤ 999) : Met l yX12_size (wc yX12_size cX12_size 14 (some .int)) ({ frames := 2, cells := 0, slots := 0, locals := 50 } : Room) (pW (dC, dI) classes (WM h g ca iv lv fa la) (TM ca) sz [.ref h, .int a, .int b]) (va_Qi (fun r (u : SS) => (((r.toInt = -100001 ∧ ¬ (0 ≤ a.toInt ∧ a.toInt < (iv 12 1).toInt)) ∨ (r.toInt = -100002 ∧ (0 ≤ a.toInt ∧ a.toInt < (iv 12 1).toInt) ∧ ¬ (0 ≤ b.toInt ∧ b.toInt ≤ 3)) ∨ ((0 ≤ a.toInt ∧ a.toInt < (iv 12 1).toInt) ∧ (0 ≤ b.toInt ∧ b.toInt ≤ 3) ∧ (((fa 12 51) (a.toInt).toNat).toInt) = 0 ∧ r.toInt = -1) ∨ ((0 ≤ a.toInt ∧ a.toInt < (iv 12 1).toInt) ∧ (0 ≤ b.toInt ∧ b.toInt ≤ 3) ∧ 0 < (((fa 12 51) (a.toInt).toNat).toInt) ∧ r.toInt = szF (sI (fun k : Nat => 2 * ((fa 12 52) (12 * (a.toInt).toNat + k)).toInt) ((((fa 12 51) (a.toInt).toNat).toInt)).toNat) (qI (fun k : Nat => 2 * ((fa 12 52) (12 * (a.toInt).toNat + k)).toInt) ((((fa 12 51) (a.toInt).toNat).toInt)).toNat) (((fa 12 51) (a.toInt).toNat).toInt) b.toInt))) ∧ (True) ∧ u = (iv, lv, fa, la)) (bM (dC, dI) h g ca (va_A (WM h g ca iv lv fa la) sz)) (va_A (WM h g ca iv lv fa la) sz)) 0 0 (va_A (WM h g ca iv lv fa la) sz) := by
  refine Met.ofW (cc := cX12_size) (maxL := 14) (ret := (some .int)) (by decide) rfl ?_
  intro p e s m args below meth c s₁ B hml hv
  obtain ⟨rfl, hsz, hP, hK, hD0⟩ := hv
  have hx := B.exec
  have hb := B.bytes
  have hr := B.returns
  have ht := tb_tl (atoms_spec (ws := wc yX12_size cX12_size 14 (some .int)) B.pre)
  have hown : s.vm.findClass RX12 = some m.cls := findClass_of_methodNamed B.named
  have hlocks := B.notSynchronized
  subst hsz
  have hD := hD0.self (sz := s.heap.size)
  generalize hAe : va_A (WM h g ca iv lv fa la) s.heap.size = A at hD ⊢
  have hA : ∀ q : Nat, s.heap.size ≤ q → A q := fun q h => by rw [← hAe]; exact Or.inr h
  have hS : va_S A s.heap s.heap [] := va_S.rf
  have hl := lv_entry [.ref h, .int a, .int b] (n := 14) (Nat.le_of_ble_eq_true rfl)
  rw [lg_entry_eq]
  generalize (lg_sl [.ref h, .int a, .int b] ++ List.replicate (14 - (lg_sl [.ref h, .int a, .int b]).length) Slot.unset).toArray = ls at hl ⊢
  have hl : lv_has ls 14 [(0, .ref h), (1, .int a), (2, .int b)] := hl
  refine lv_aload_n hx hb dX12_size_0 rfl (lv_at hl 0 rfl) ?_
  refine lv_iload_n hx hb dX12_size_1 rfl (lv_at hl 1 rfl) ?_
  refine vp_callSi (W.runV (As := [.int a]) (rest := []) ⟨hx, hb, hml, hown, ht⟩ (c_X12_noBale l dC dI h g ca iv lv fa la hI a) (kV 1 ht m_1385 m_1387 m_42 m_89 m_1388 rfl rfl hd_X12_noBale_v ⟨Nat.le_of_ble_eq_true rfl, Nat.le_of_ble_eq_true rfl⟩) (vR hP hK (rM_12 hK hP)) rfl rfl hl.1 rfl (lv_room (Nat.le_of_ble_eq_true rfl)) dX12_size_2 ⟨Nat.le_of_ble_eq_true rfl, Nat.le_of_ble_eq_true rfl⟩) (fun r1 hr1 => ?_)
  rcases hr1 with ⟨rfl, fr1⟩ | ⟨rfl, fr1⟩
  · skip
    have i_12_1 : 0 ≤ (iv 12 1).toInt ∧ (iv 12 1).toInt ≤ 10 := hI.1 12 1
    have fr1 : ¬ (0 ≤ (a : Int32).toInt ∧ (a : Int32).toInt < ((iv 12 1) : Int32).toInt) := fr1
    refine lv_if_eq (tgt := 11) hx hb dX12_size_5 (by decide) (fun c2 => ?_) (fun c2 => ?_)
    · exact absurd c2 (by decide)
    · skip
      refine lv_ldc hx hb hown (ht _ m_1389) dX12_size_8 ?_
      have : ((-100001) : Int32).toInt = (-100001) := (by decide)
      have hP9 : va_P (dC, dI) classes (WM h g ca iv lv fa la) s.heap := hP
      have hD9 : va_D A (WM h g ca iv lv fa la) := hD
      exact W.iret (v := (-100001)) hx hb hr (fun t ht9 hW => ⟨⟨(-100001), (iv, lv, fa, la), rfl, ⟨(show ((((-100001) : Int32).toInt = -100001 ∧ ¬ (0 ≤ (a).toInt ∧ (a).toInt < (iv 12 1).toInt)) ∨ (((-100001) : Int32).toInt = -100002 ∧ (0 ≤ (a).toInt ∧ (a).toInt < (iv 12 1).toInt) ∧ ¬ (0 ≤ (b).toInt ∧ (b).toInt ≤ 3)) ∨ ((0 ≤ (a).toInt ∧ (a).toInt < (iv 12 1).toInt) ∧ (0 ≤ (b).toInt ∧ (b).toInt ≤ 3) ∧ (((fa 12 51) ((a).toInt).toNat).toInt) = 0 ∧ ((-100001) : Int32).toInt = -1) ∨ ((0 ≤ (a).toInt ∧ (a).toInt < (iv 12 1).toInt) ∧ (0 ≤ (b).toInt ∧ (b).toInt ≤ 3) ∧ 0 < (((fa 12 51) ((a).toInt).toNat).toInt) ∧ ((-100001) : Int32).toInt = szF (sI (fun k : Nat => 2 * ((fa 12 52) (12 * ((a).toInt).toNat + k)).toInt) ((((fa 12 51) ((a).toInt).toNat).toInt)).toNat) (qI (fun k : Nat => 2 * ((fa 12 52) (12 * ((a).toInt).toNat + k)).toInt) ((((fa 12 51) ((a).toInt).toNat).toInt)).toNat) (((fa 12 51) ((a).toInt).toNat).toInt) (b).toInt)) from Or.inl ⟨by omega, by omega⟩), trivial, rfl⟩, by rw [ht9]; exact hP9, hD9⟩, hS.F ht9⟩) hS.2.2 dX12_size_10
  · skip
    have i_12_1 : 0 ≤ (iv 12 1).toInt ∧ (iv 12 1).toInt ≤ 10 := hI.1 12 1
    have fr1 : (0 ≤ (a : Int32).toInt ∧ (a : Int32).toInt < ((iv 12 1) : Int32).toInt) := Decidable.not_not.mp fr1
    refine lv_if_eq (tgt := 11) hx hb dX12_size_5 (by decide) (fun c3 => ?_) (fun c3 => ?_)
    · skip
      refine lv_iload_n hx hb dX12_size_11 rfl (lv_at hl 2 rfl) ?_
      refine lv_i2l (v := (b.toInt64)) hx hb dX12_size_12 rfl ?_
      refine lv_lconst (v := 0) hx hb dX12_size_13 (by decide) ?_
      refine lv_ldc2 hx hb hown (ht _ m_1391) dX12_size_14 ?_
      refine vp_callSi (W.runS (As := [.long (b.toInt64), .long 0, .long 3]) (rest := []) ⟨hx, hb, hml, hown, ht⟩ (c_X12_in l dC dI (b.toInt64) 0 3 (b.toInt) (0) (3) ((Int32.toInt_toInt64 b).trans rfl) (by decide : (0 : Int64).toInt = 0) (by decide : (3 : Int64).toInt = 3)) (kS 3 ht m_1370 m_1371 m_89 m_1372 rfl rfl hd_X12_in_v ⟨Nat.le_of_ble_eq_true rfl, Nat.le_of_ble_eq_true rfl⟩) (sR noP (hK.sub (tys' := []) [] rfl)) rfl rfl hl.1 rfl (lv_room (Nat.le_of_ble_eq_true rfl)) dX12_size_17 ⟨Nat.le_of_ble_eq_true rfl, Nat.le_of_ble_eq_true rfl⟩) (fun r4 hr4 => ?_)
      rcases hr4 with ⟨rfl, fr4⟩ | ⟨rfl, fr4⟩
      · skip
        refine lv_if_ne (tgt := 26) hx hb dX12_size_20 (by decide) (fun c5 => ?_) (fun c5 => ?_)
        · skip
          refine lv_aload_n hx hb dX12_size_26 rfl (lv_at hl 0 rfl) ?_
          refine gM_12_51 hx hb ht hown hK hP m_1190 dX12_size_27 ?_
          refine lv_iload_n hx hb dX12_size_30 rfl (lv_at hl 1 rfl) ?_
          refine lM_12_51 hx hb hK hP (f := (fa 12 51)) rfl (vp_in_iff.mpr ⟨by omega, by omega⟩) dX12_size_31 ?_
          refine lv_topi (fun v6 ev6 => ?_)
          have tv6 : 0 ≤ v6.toInt ∧ v6.toInt ≤ 12 := by rw [ev6]; exact hI.2 12 51 _
          have hn9 := congrArg Int32.toInt (show v6 = fa 12 51 (a.toInt).toNat from ev6)
          refine lv_istore_n (lv' := [(3, .int v6), (0, .ref h), (1, .int a), (2, .int b)]) hx hb dX12_size_32 rfl hl (by decide) rfl (fun ls hl => ?_)
          refine lv_iload_n hx hb dX12_size_33 rfl (lv_at hl 0 rfl) ?_
          refine lv_if_ne (tgt := 39) hx hb dX12_size_34 (by decide) (fun c7 => ?_) (fun c7 => ?_)
          · have fc7 := z_ne (rfl : (v6).toInt = _) (by decide : (0 : Int32).toInt = 0) c7
            refine lv_lconst (v := 0) hx hb dX12_size_39 (by decide) ?_
            refine lv_lstore (lv' := [(4, .long 0), (3, .int v6), (0, .ref h), (1, .int a), (2, .int b)]) hx hb dX12_size_40 hl (by decide) rfl (fun ls hl => ?_)
            refine lv_lconst (v := 0) hx hb dX12_size_42 (by decide) ?_
            refine lv_lstore (lv' := [(6, .long 0), (4, .long 0), (3, .int v6), (0, .ref h), (1, .int a), (2, .int b)]) hx hb dX12_size_43 hl (by decide) rfl (fun ls hl => ?_)
            refine lv_iconst (v := 0) hx hb dX12_size_45 (by decide) ?_
            refine lv_istore (lv' := [(8, .int 0), (6, .long 0), (4, .long 0), (3, .int v6), (0, .ref h), (1, .int a), (2, .int b)]) hx hb dX12_size_46 hl (by decide) rfl (fun ls hl => ?_)
            have lp391 : ∀ (nn391 : Nat) (x390_8 : Int32) (x390_6 : Int64) (x390_4 : Int64), 0 ≤ x390_8.toInt ∧ x390_8.toInt ≤ 12 → ((x390_4 : Int64).toInt = sI (fun k : Nat => 2 * ((fa 12 52) (12 * ((a).toInt).toNat + k)).toInt) ((x390_8 : Int32).toInt).toNat) → ((x390_6 : Int64).toInt = qI (fun k : Nat => 2 * ((fa 12 52) (12 * ((a).toInt).toNat + k)).toInt) ((x390_8 : Int32).toInt).toNat) → (x390_8 : Int32).toInt ≤ (((fa 12 51) ((a).toInt).toNat).toInt) → 12 - x390_8.toInt < (nn391 : Int) → ∀ (H : Heap) (locs : List Loc), ∀ (ls : Array Slot), va_P (dC, dI) classes (WM h g ca iv lv fa la) H → va_D A (WM h g ca iv lv fa la) → va_S A s.heap H locs → lv_has ls 14 [(8, .int x390_8), (6, .long x390_6), (4, .long x390_4), (3, .int v6), (0, .ref h), (1, .int a), (2, .int b)] → W p l e ({ frames := 2, cells := 0, slots := 0, locals := 50 } : Room) s m ([.ref h, .int a, .int b] : List Value).toArray below meth c H locs 0 0 (MQ below (va_Qi (fun r (u : SS) => (((r.toInt = -100001 ∧ ¬ (0 ≤ a.toInt ∧ a.toInt < (iv 12 1).toInt)) ∨ (r.toInt = -100002 ∧ (0 ≤ a.toInt ∧ a.toInt < (iv 12 1).toInt) ∧ ¬ (0 ≤ b.toInt ∧ b.toInt ≤ 3)) ∨ ((0 ≤ a.toInt ∧ a.toInt < (iv 12 1).toInt) ∧ (0 ≤ b.toInt ∧ b.toInt ≤ 3) ∧ (((fa 12 51) (a.toInt).toNat).toInt) = 0 ∧ r.toInt = -1) ∨ ((0 ≤ a.toInt ∧ a.toInt < (iv 12 1).toInt) ∧ (0 ≤ b.toInt ∧ b.toInt ≤ 3) ∧ 0 < (((fa 12 51) (a.toInt).toNat).toInt) ∧ r.toInt = szF (sI (fun k : Nat => 2 * ((fa 12 52) (12 * (a.toInt).toNat + k)).toInt) ((((fa 12 51) (a.toInt).toNat).toInt)).toNat) (qI (fun k : Nat => 2 * ((fa 12 52) (12 * (a.toInt).toNat + k)).toInt) ((((fa 12 51) (a.toInt).toNat).toInt)).toNat) (((fa 12 51) (a.toInt).toNat).toInt) b.toInt))) ∧ (True) ∧ u = (iv, lv, fa, la)) (bM (dC, dI) h g ca A) A) ([.ref h, .int a, .int b] : List Value).toArray s 0 0 A) (F0 m 48 ls []) := by
              intro nn391
              induction nn391 with
              | zero => intro x390_8 x390_6 x390_4 hx390_8 hq391_0 hq391_1 hq391_2 hm391; exfalso; omega
              | succ nn391 ih391 =>
                intro x390_8 x390_6 x390_4 hx390_8 hq391_0 hq391_1 hq391_2 hm391 H locs ls hP hD hS hl
                refine lv_iload hx hb dX12_size_48 (lv_at hl 0 rfl) ?_
                refine lv_iload_n hx hb dX12_size_50 rfl (lv_at hl 3 rfl) ?_
                refine lv_icmp_ge (tgt := 96) hx hb dX12_size_51 (by decide) (fun c392 => ?_) (fun c392 => ?_)
                · have fc392 := z_le (rfl : (v6).toInt = _) (rfl : (x390_8).toInt = _) c392
                  have he9 : ((x390_8 : Int32).toInt).toNat = ((fa 12 51 (a.toInt).toNat).toInt).toNat := by omega
                  have hsu := hq391_0
                  have hqu := hq391_1
                  rw [he9] at hsu hqu
                  have hb9 := sI_b (f := (fun k : Nat => 2 * (fa 12 52 (12 * (a.toInt).toNat + k)).toInt)) ((fa 12 51 (a.toInt).toNat).toInt).toNat (fun j hj => (by have h5 := hJV (12 * (a.toInt).toNat + j); show 0 ≤ 2 * (fa 12 52 (12 * (a.toInt).toNat + j)).toInt ∧ 2 * (fa 12 52 (12 * (a.toInt).toNat + j)).toInt ≤ 1998; omega))
                  have hc9 := cs (f := (fun k : Nat => 2 * (fa 12 52 (12 * (a.toInt).toNat + k)).toInt)) ((fa 12 51 (a.toInt).toNat).toInt).toNat
                  have hk9 : ((((fa 12 51 (a.toInt).toNat).toInt).toNat : Nat) : Int) = (fa 12 51 (a.toInt).toNat).toInt := Int.toNat_of_nonneg (by omega)
                  rw [hk9] at hb9 hc9
                  have : 0 ≤ (x390_4 : Int64).toInt ∧ (x390_4 : Int64).toInt ≤ 23976 := ⟨by omega, by omega⟩
                  have : 0 ≤ (x390_6 : Int64).toInt ∧ (x390_6 : Int64).toInt ≤ 47904048 := ⟨by omega, by omega⟩
                  refine lv_iload_n hx hb dX12_size_96 rfl (lv_at hl 6 rfl) ?_
                  refine lv_iconst (v := 2) hx hb dX12_size_97 (by decide) ?_
                  refine lv_icmp_ge (tgt := 106) hx hb dX12_size_98 (by decide) (fun c393 => ?_) (fun c393 => ?_)
                  · have fc393 := z_le (by decide : (2 : Int32).toInt = 2) (rfl : (b).toInt = _) c393
                    refine lv_iload_n hx hb dX12_size_106 rfl (lv_at hl 3 rfl) ?_
                    refine lv_i2l (v := (v6.toInt64)) hx hb dX12_size_107 rfl ?_
                    refine lv_lload hx hb dX12_size_108 (lv_at hl 1 rfl) ?_
                    have : ((v6.toInt64) : Int64).toInt = v6.toInt := ((Int32.toInt_toInt64 v6).trans rfl)
                    refine lv_lmul hx hb dX12_size_110 ?_
                    refine lv_topl (fun w394 ew394 => ?_)
                    have tw394 := l_mulb (a1 := 1) (b1 := 12) (a2 := 0) (b2 := 47904048) ew394 (rfl : ((v6.toInt64) : Int64).toInt = _) (rfl : (x390_6 : Int64).toInt = _) (by omega) (by omega) (by omega) (by omega) (by decide) (by decide) (by decide)
                    have : 0 ≤ w394.toInt ∧ w394.toInt ≤ 574848576 := ⟨by omega, by omega⟩
                    have hq8 := mul_b (x := (fa 12 51 (a.toInt).toNat).toInt) (y := qI (fun k : Nat => 2 * (fa 12 52 (12 * (a.toInt).toNat + k)).toInt) ((fa 12 51 (a.toInt).toNat).toInt).toNat) (a1 := 0) (b1 := 12) (a2 := 0) (b2 := 47904048) (by omega) (by omega) (by omega) (by omega) (by decide) (by decide)
                    have hq9 := l_mul ew394 ((Int32.toInt_toInt64 v6).trans hn9) hqu (by omega) (by omega)
                    have : 0 ≤ (w394 : Int64).toInt ∧ (w394 : Int64).toInt ≤ 574848576 := ⟨by omega, by omega⟩
                    refine lv_lload hx hb dX12_size_111 (lv_at hl 2 rfl) ?_
                    refine lv_lload hx hb dX12_size_113 (lv_at hl 2 rfl) ?_
                    refine lv_lmul hx hb dX12_size_115 ?_
                    refine lv_topl (fun w395 ew395 => ?_)
                    have tw395 := l_mulb (a1 := 0) (b1 := 23976) (a2 := 0) (b2 := 23976) ew395 (rfl : (x390_4 : Int64).toInt = _) (rfl : (x390_4 : Int64).toInt = _) (by omega) (by omega) (by omega) (by omega) (by decide) (by decide) (by decide)
                    have : 0 ≤ w395.toInt ∧ w395.toInt ≤ 574848576 := ⟨by omega, by omega⟩
                    have hs8 := mul_b (x := sI (fun k : Nat => 2 * (fa 12 52 (12 * (a.toInt).toNat + k)).toInt) ((fa 12 51 (a.toInt).toNat).toInt).toNat) (y := sI (fun k : Nat => 2 * (fa 12 52 (12 * (a.toInt).toNat + k)).toInt) ((fa 12 51 (a.toInt).toNat).toInt).toNat) (a1 := 0) (b1 := 23976) (a2 := 0) (b2 := 23976) (by omega) (by omega) (by omega) (by omega) (by decide) (by decide)
                    have hs9 := l_mul ew395 hsu hsu (by omega) (by omega)
                    have : 0 ≤ (w395 : Int64).toInt ∧ (w395 : Int64).toInt ≤ 574848576 := ⟨by omega, by omega⟩
                    refine lv_lsub hx hb dX12_size_116 ?_
                    refine lv_topl (fun w396 ew396 => ?_)
                    have tw396 := l_sub ew396 (rfl : (w394).toInt = _) (rfl : (w395).toInt = _) (by omega) (by omega)
                    have hd9 := l_sub ew396 hq9 hs9 (by omega) (by omega)
                    have : 0 ≤ (w396 : Int64).toInt ∧ (w396 : Int64).toInt ≤ 574848576 := ⟨by omega, by omega⟩
                    refine lv_lstore (lv' := [(8, .long w396), (6, .long x390_6), (4, .long x390_4), (3, .int v6), (0, .ref h), (1, .int a), (2, .int b)]) hx hb dX12_size_117 hl (by decide) rfl (fun ls hl => ?_)
                    refine lv_iload_n hx hb dX12_size_119 rfl (lv_at hl 6 rfl) ?_
                    refine lv_iconst (v := 2) hx hb dX12_size_120 (by decide) ?_
                    refine lv_icmp_ge (tgt := 129) hx hb dX12_size_121 (by decide) (fun c397 => ?_) (fun c397 => ?_)
                    · skip
                      refine lv_iload_n hx hb dX12_size_129 rfl (lv_at hl 3 rfl) ?_
                      refine lv_i2l (v := (v6.toInt64)) hx hb dX12_size_130 rfl ?_
                      refine lv_iload_n hx hb dX12_size_131 rfl (lv_at hl 3 rfl) ?_
                      refine lv_i2l (v := (v6.toInt64)) hx hb dX12_size_132 rfl ?_
                      refine lv_lmul hx hb dX12_size_133 ?_
                      refine lv_topl (fun w398 ew398 => ?_)
                      have tw398 := l_mulb (a1 := 1) (b1 := 12) (a2 := 1) (b2 := 12) ew398 (rfl : ((v6.toInt64) : Int64).toInt = _) (rfl : ((v6.toInt64) : Int64).toInt = _) (by omega) (by omega) (by omega) (by omega) (by decide) (by decide) (by decide)
                      have : 1 ≤ w398.toInt ∧ w398.toInt ≤ 144 := ⟨by omega, by omega⟩
                      have hz8 := mul_b (x := (fa 12 51 (a.toInt).toNat).toInt) (y := (fa 12 51 (a.toInt).toNat).toInt) (a1 := 0) (b1 := 12) (a2 := 0) (b2 := 12) (by omega) (by omega) (by omega) (by omega) (by decide) (by decide)
                      have hz9 := l_mul ew398 ((Int32.toInt_toInt64 v6).trans hn9) ((Int32.toInt_toInt64 v6).trans hn9) (by omega) (by omega)
                      have : 1 ≤ (w398 : Int64).toInt ∧ (w398 : Int64).toInt ≤ 144 := ⟨by omega, by omega⟩
                      refine lv_lstore (lv' := [(10, .long w398), (8, .long w396), (6, .long x390_6), (4, .long x390_4), (3, .int v6), (0, .ref h), (1, .int a), (2, .int b)]) hx hb dX12_size_134 hl (by decide) rfl (fun ls hl => ?_)
                      refine lv_lload hx hb dX12_size_136 (lv_at hl 1 rfl) ?_
                      refine lv_lload hx hb dX12_size_138 (lv_at hl 0 rfl) ?_
                      refine vp_callSl (W.runS (As := [.long w396, .long w398]) (rest := []) ⟨hx, hb, hml, hown, ht⟩ (c_X12_gcd_g l dC dI w396 w398 (show 0 ≤ (w396 : Int64).toInt from by omega) (show 0 ≤ (w398 : Int64).toInt from by omega)) (kS 2 ht m_1442 m_1443 m_89 m_1444 rfl rfl hd_X12_gcd_v ⟨Nat.le_of_ble_eq_true rfl, Nat.le_of_ble_eq_true rfl⟩) (sR noP (hK.sub (tys' := []) [] rfl)) rfl rfl hl.1 rfl (lv_room (Nat.le_of_ble_eq_true rfl)) dX12_size_140 ⟨Nat.le_of_ble_eq_true rfl, Nat.le_of_ble_eq_true rfl⟩) (fun r399 hr399 => ?_)
                      obtain ⟨hr399, xr399_0⟩ := hr399
                      have xr399_0 : (r399 : Int64).toInt = gN (w396 : Int64).toInt (w398 : Int64).toInt := xr399_0
                      have hp9 := gN_pos (x := (w396 : Int64).toInt) (y := (w398 : Int64).toInt) (by omega)
                      rw [← xr399_0] at hp9
                      refine lv_lstore (lv' := [(12, .long r399), (10, .long w398), (8, .long w396), (6, .long x390_6), (4, .long x390_4), (3, .int v6), (0, .ref h), (1, .int a), (2, .int b)]) hx hb dX12_size_143 hl (by decide) rfl (fun ls hl => ?_)
                      refine lv_iload_n hx hb dX12_size_145 rfl (lv_at hl 8 rfl) ?_
                      refine lv_iconst (v := 2) hx hb dX12_size_146 (by decide) ?_
                      refine lv_irem hx hb dX12_size_147 (by decide) ?_
                      refine lv_topi (fun v400 ev400 => ?_)
                      have tv400 := z_remp ev400 (rfl : (b).toInt = _) (by decide : (2 : Int32).toInt = 2) (by omega) (by omega)
                      refine lv_if_ne (tgt := 159) hx hb dX12_size_148 (by decide) (fun c401 => ?_) (fun c401 => ?_)
                      · have fc401 := z_ne (rfl : (v400).toInt = _) (by decide : (0 : Int32).toInt = 0) c401
                        refine lv_lload hx hb dX12_size_159 (lv_at hl 1 rfl) ?_
                        refine lv_lload hx hb dX12_size_161 (lv_at hl 0 rfl) ?_
                        have zw402 : (r399 : Int64).toInt ≠ 0 := by omega
                        refine lv_ldiv hx hb dX12_size_163 (l_nz rfl zw402) ?_
                        refine lv_topl (fun w402 ew402 => ?_)
                        obtain ⟨v403, ev403⟩ : ∃ y : Int32, w402.toInt32 = y := ⟨_, rfl⟩
                        refine lv_l2i (v := v403) hx hb dX12_size_164 ev403 ?_
                        have hP9 : va_P (dC, dI) classes (WM h g ca iv lv fa la) H := hP
                        have hD9 : va_D A (WM h g ca iv lv fa la) := hD
                        exact W.iret (v := v403) hx hb hr (fun t ht9 hW => ⟨⟨v403, (iv, lv, fa, la), rfl, ⟨(show (((v403 : Int32).toInt = -100001 ∧ ¬ (0 ≤ (a).toInt ∧ (a).toInt < (iv 12 1).toInt)) ∨ ((v403 : Int32).toInt = -100002 ∧ (0 ≤ (a).toInt ∧ (a).toInt < (iv 12 1).toInt) ∧ ¬ (0 ≤ (b).toInt ∧ (b).toInt ≤ 3)) ∨ ((0 ≤ (a).toInt ∧ (a).toInt < (iv 12 1).toInt) ∧ (0 ≤ (b).toInt ∧ (b).toInt ≤ 3) ∧ (((fa 12 51) ((a).toInt).toNat).toInt) = 0 ∧ (v403 : Int32).toInt = -1) ∨ ((0 ≤ (a).toInt ∧ (a).toInt < (iv 12 1).toInt) ∧ (0 ≤ (b).toInt ∧ (b).toInt ≤ 3) ∧ 0 < (((fa 12 51) ((a).toInt).toNat).toInt) ∧ (v403 : Int32).toInt = szF (sI (fun k : Nat => 2 * ((fa 12 52) (12 * ((a).toInt).toNat + k)).toInt) ((((fa 12 51) ((a).toInt).toNat).toInt)).toNat) (qI (fun k : Nat => 2 * ((fa 12 52) (12 * ((a).toInt).toNat + k)).toInt) ((((fa 12 51) ((a).toInt).toNat).toInt)).toNat) (((fa 12 51) ((a).toInt).toNat).toInt) (b).toInt)) from Or.inr (Or.inr (Or.inr ⟨⟨by omega, by omega⟩, ⟨by omega, by omega⟩, by omega, (by
                              have hU : (w396 : Int64).toInt = (fa 12 51 (a.toInt).toNat).toInt * qI (fun k : Nat => 2 * (fa 12 52 (12 * (a.toInt).toNat + k)).toInt) ((fa 12 51 (a.toInt).toNat).toInt).toNat - sI (fun k : Nat => 2 * (fa 12 52 (12 * (a.toInt).toNat + k)).toInt) ((fa 12 51 (a.toInt).toNat).toInt).toNat * sI (fun k : Nat => 2 * (fa 12 52 (12 * (a.toInt).toNat + k)).toInt) ((fa 12 51 (a.toInt).toNat).toInt).toNat := hd9
                              have hD : (w398 : Int64).toInt = (fa 12 51 (a.toInt).toNat).toInt * (fa 12 51 (a.toInt).toNat).toInt := hz9
                              have hg8 := xr399_0
                              rw [hU, hD] at hg8
                              have hm9 := l_divp ew402 hD hg8 (by omega) (by omega)
                              have hp8 := gN_pos (x := (fa 12 51 (a.toInt).toNat).toInt * qI (fun k : Nat => 2 * (fa 12 52 (12 * (a.toInt).toNat + k)).toInt) ((fa 12 51 (a.toInt).toNat).toInt).toNat - sI (fun k : Nat => 2 * (fa 12 52 (12 * (a.toInt).toNat + k)).toInt) ((fa 12 51 (a.toInt).toNat).toInt).toNat * sI (fun k : Nat => 2 * (fa 12 52 (12 * (a.toInt).toNat + k)).toInt) ((fa 12 51 (a.toInt).toNat).toInt).toNat) (y := (fa 12 51 (a.toInt).toNat).toInt * (fa 12 51 (a.toInt).toNat).toInt) (by omega)
                              have hi1 := div_iz (x := (fa 12 51 (a.toInt).toNat).toInt * (fa 12 51 (a.toInt).toNat).toInt) (y := gN ((fa 12 51 (a.toInt).toNat).toInt * qI (fun k : Nat => 2 * (fa 12 52 (12 * (a.toInt).toNat + k)).toInt) ((fa 12 51 (a.toInt).toNat).toInt).toNat - sI (fun k : Nat => 2 * (fa 12 52 (12 * (a.toInt).toNat + k)).toInt) ((fa 12 51 (a.toInt).toNat).toInt).toNat * sI (fun k : Nat => 2 * (fa 12 52 (12 * (a.toInt).toNat + k)).toInt) ((fa 12 51 (a.toInt).toNat).toInt).toNat) ((fa 12 51 (a.toInt).toNat).toInt * (fa 12 51 (a.toInt).toNat).toInt)) (by omega) hp8
                              have hv9 := l2i_iz ev403 hm9 (by omega) (by omega)
                              unfold szF
                              rw [if_neg (by omega), if_neg (by omega)]
                              omega)⟩))), trivial, rfl⟩, by rw [ht9]; exact hP9, hD9⟩, hS.F ht9⟩) hS.2.2 dX12_size_165
                      · have fc401 := z_eq (rfl : (v400).toInt = _) (by decide : (0 : Int32).toInt = 0) c401
                        refine lv_lload hx hb dX12_size_151 (lv_at hl 2 rfl) ?_
                        refine lv_lload hx hb dX12_size_153 (lv_at hl 0 rfl) ?_
                        have zw404 : (r399 : Int64).toInt ≠ 0 := by omega
                        refine lv_ldiv hx hb dX12_size_155 (l_nz rfl zw404) ?_
                        refine lv_topl (fun w404 ew404 => ?_)
                        refine lv_goto (tgt := 164) hx hb dX12_size_156 (by decide) ?_
                        obtain ⟨v405, ev405⟩ : ∃ y : Int32, w404.toInt32 = y := ⟨_, rfl⟩
                        refine lv_l2i (v := v405) hx hb dX12_size_164 ev405 ?_
                        have hP9 : va_P (dC, dI) classes (WM h g ca iv lv fa la) H := hP
                        have hD9 : va_D A (WM h g ca iv lv fa la) := hD
                        exact W.iret (v := v405) hx hb hr (fun t ht9 hW => ⟨⟨v405, (iv, lv, fa, la), rfl, ⟨(show (((v405 : Int32).toInt = -100001 ∧ ¬ (0 ≤ (a).toInt ∧ (a).toInt < (iv 12 1).toInt)) ∨ ((v405 : Int32).toInt = -100002 ∧ (0 ≤ (a).toInt ∧ (a).toInt < (iv 12 1).toInt) ∧ ¬ (0 ≤ (b).toInt ∧ (b).toInt ≤ 3)) ∨ ((0 ≤ (a).toInt ∧ (a).toInt < (iv 12 1).toInt) ∧ (0 ≤ (b).toInt ∧ (b).toInt ≤ 3) ∧ (((fa 12 51) ((a).toInt).toNat).toInt) = 0 ∧ (v405 : Int32).toInt = -1) ∨ ((0 ≤ (a).toInt ∧ (a).toInt < (iv 12 1).toInt) ∧ (0 ≤ (b).toInt ∧ (b).toInt ≤ 3) ∧ 0 < (((fa 12 51) ((a).toInt).toNat).toInt) ∧ (v405 : Int32).toInt = szF (sI (fun k : Nat => 2 * ((fa 12 52) (12 * ((a).toInt).toNat + k)).toInt) ((((fa 12 51) ((a).toInt).toNat).toInt)).toNat) (qI (fun k : Nat => 2 * ((fa 12 52) (12 * ((a).toInt).toNat + k)).toInt) ((((fa 12 51) ((a).toInt).toNat).toInt)).toNat) (((fa 12 51) ((a).toInt).toNat).toInt) (b).toInt)) from Or.inr (Or.inr (Or.inr ⟨⟨by omega, by omega⟩, ⟨by omega, by omega⟩, by omega, (by
                              have hU : (w396 : Int64).toInt = (fa 12 51 (a.toInt).toNat).toInt * qI (fun k : Nat => 2 * (fa 12 52 (12 * (a.toInt).toNat + k)).toInt) ((fa 12 51 (a.toInt).toNat).toInt).toNat - sI (fun k : Nat => 2 * (fa 12 52 (12 * (a.toInt).toNat + k)).toInt) ((fa 12 51 (a.toInt).toNat).toInt).toNat * sI (fun k : Nat => 2 * (fa 12 52 (12 * (a.toInt).toNat + k)).toInt) ((fa 12 51 (a.toInt).toNat).toInt).toNat := hd9
                              have hD : (w398 : Int64).toInt = (fa 12 51 (a.toInt).toNat).toInt * (fa 12 51 (a.toInt).toNat).toInt := hz9
                              have hg8 := xr399_0
                              rw [hU, hD] at hg8
                              have hm9 := l_divp ew404 hU hg8 (by omega) (by omega)
                              have hp8 := gN_pos (x := (fa 12 51 (a.toInt).toNat).toInt * qI (fun k : Nat => 2 * (fa 12 52 (12 * (a.toInt).toNat + k)).toInt) ((fa 12 51 (a.toInt).toNat).toInt).toNat - sI (fun k : Nat => 2 * (fa 12 52 (12 * (a.toInt).toNat + k)).toInt) ((fa 12 51 (a.toInt).toNat).toInt).toNat * sI (fun k : Nat => 2 * (fa 12 52 (12 * (a.toInt).toNat + k)).toInt) ((fa 12 51 (a.toInt).toNat).toInt).toNat) (y := (fa 12 51 (a.toInt).toNat).toInt * (fa 12 51 (a.toInt).toNat).toInt) (by omega)
                              have hi1 := div_iz (x := (fa 12 51 (a.toInt).toNat).toInt * qI (fun k : Nat => 2 * (fa 12 52 (12 * (a.toInt).toNat + k)).toInt) ((fa 12 51 (a.toInt).toNat).toInt).toNat - sI (fun k : Nat => 2 * (fa 12 52 (12 * (a.toInt).toNat + k)).toInt) ((fa 12 51 (a.toInt).toNat).toInt).toNat * sI (fun k : Nat => 2 * (fa 12 52 (12 * (a.toInt).toNat + k)).toInt) ((fa 12 51 (a.toInt).toNat).toInt).toNat) (y := gN ((fa 12 51 (a.toInt).toNat).toInt * qI (fun k : Nat => 2 * (fa 12 52 (12 * (a.toInt).toNat + k)).toInt) ((fa 12 51 (a.toInt).toNat).toInt).toNat - sI (fun k : Nat => 2 * (fa 12 52 (12 * (a.toInt).toNat + k)).toInt) ((fa 12 51 (a.toInt).toNat).toInt).toNat * sI (fun k : Nat => 2 * (fa 12 52 (12 * (a.toInt).toNat + k)).toInt) ((fa 12 51 (a.toInt).toNat).toInt).toNat) ((fa 12 51 (a.toInt).toNat).toInt * (fa 12 51 (a.toInt).toNat).toInt)) (by omega) hp8
                              have hv9 := l2i_iz ev405 hm9 (by omega) (by omega)
                              unfold szF
                              rw [if_neg (by omega), if_pos (by omega)]
                              omega)⟩))), trivial, rfl⟩, by rw [ht9]; exact hP9, hD9⟩, hS.F ht9⟩) hS.2.2 dX12_size_165
                    · have fc397 := z_nle (by decide : (2 : Int32).toInt = 2) (rfl : (b).toInt = _) c397; exfalso; omega
                  · have fc393 := z_nle (by decide : (2 : Int32).toInt = 2) (rfl : (b).toInt = _) c393
                    refine lv_lload hx hb dX12_size_101 (lv_at hl 2 rfl) ?_
                    refine lv_goto (tgt := 117) hx hb dX12_size_103 (by decide) ?_
                    refine lv_lstore (lv' := [(8, .long x390_4), (6, .long x390_6), (4, .long x390_4), (3, .int v6), (0, .ref h), (1, .int a), (2, .int b)]) hx hb dX12_size_117 hl (by decide) rfl (fun ls hl => ?_)
                    refine lv_iload_n hx hb dX12_size_119 rfl (lv_at hl 6 rfl) ?_
                    refine lv_iconst (v := 2) hx hb dX12_size_120 (by decide) ?_
                    refine lv_icmp_ge (tgt := 129) hx hb dX12_size_121 (by decide) (fun c406 => ?_) (fun c406 => ?_)
                    · have fc406 := z_le (by decide : (2 : Int32).toInt = 2) (rfl : (b).toInt = _) c406; exfalso; omega
                    · skip
                      refine lv_iload_n hx hb dX12_size_124 rfl (lv_at hl 3 rfl) ?_
                      refine lv_i2l (v := (v6.toInt64)) hx hb dX12_size_125 rfl ?_
                      refine lv_goto (tgt := 134) hx hb dX12_size_126 (by decide) ?_
                      refine lv_lstore (lv' := [(10, .long (v6.toInt64)), (8, .long x390_4), (6, .long x390_6), (4, .long x390_4), (3, .int v6), (0, .ref h), (1, .int a), (2, .int b)]) hx hb dX12_size_134 hl (by decide) rfl (fun ls hl => ?_)
                      refine lv_lload hx hb dX12_size_136 (lv_at hl 1 rfl) ?_
                      refine lv_lload hx hb dX12_size_138 (lv_at hl 0 rfl) ?_
                      have : ((v6.toInt64) : Int64).toInt = v6.toInt := ((Int32.toInt_toInt64 v6).trans rfl)
                      refine vp_callSl (W.runS (As := [.long x390_4, .long (v6.toInt64)]) (rest := []) ⟨hx, hb, hml, hown, ht⟩ (c_X12_gcd_g l dC dI x390_4 (v6.toInt64) (show 0 ≤ (x390_4 : Int64).toInt from by omega) (show 0 ≤ ((v6.toInt64) : Int64).toInt from by omega)) (kS 2 ht m_1442 m_1443 m_89 m_1444 rfl rfl hd_X12_gcd_v ⟨Nat.le_of_ble_eq_true rfl, Nat.le_of_ble_eq_true rfl⟩) (sR noP (hK.sub (tys' := []) [] rfl)) rfl rfl hl.1 rfl (lv_room (Nat.le_of_ble_eq_true rfl)) dX12_size_140 ⟨Nat.le_of_ble_eq_true rfl, Nat.le_of_ble_eq_true rfl⟩) (fun r407 hr407 => ?_)
                      obtain ⟨hr407, xr407_0⟩ := hr407
                      have xr407_0 : (r407 : Int64).toInt = gN (x390_4 : Int64).toInt ((v6.toInt64) : Int64).toInt := xr407_0
                      have hp9 := gN_pos (x := (x390_4 : Int64).toInt) (y := ((v6.toInt64) : Int64).toInt) (by omega)
                      rw [← xr407_0] at hp9
                      refine lv_lstore (lv' := [(12, .long r407), (10, .long (v6.toInt64)), (8, .long x390_4), (6, .long x390_6), (4, .long x390_4), (3, .int v6), (0, .ref h), (1, .int a), (2, .int b)]) hx hb dX12_size_143 hl (by decide) rfl (fun ls hl => ?_)
                      refine lv_iload_n hx hb dX12_size_145 rfl (lv_at hl 8 rfl) ?_
                      refine lv_iconst (v := 2) hx hb dX12_size_146 (by decide) ?_
                      refine lv_irem hx hb dX12_size_147 (by decide) ?_
                      refine lv_topi (fun v408 ev408 => ?_)
                      have tv408 := z_remp ev408 (rfl : (b).toInt = _) (by decide : (2 : Int32).toInt = 2) (by omega) (by omega)
                      refine lv_if_ne (tgt := 159) hx hb dX12_size_148 (by decide) (fun c409 => ?_) (fun c409 => ?_)
                      · have fc409 := z_ne (rfl : (v408).toInt = _) (by decide : (0 : Int32).toInt = 0) c409
                        refine lv_lload hx hb dX12_size_159 (lv_at hl 1 rfl) ?_
                        refine lv_lload hx hb dX12_size_161 (lv_at hl 0 rfl) ?_
                        have zw410 : (r407 : Int64).toInt ≠ 0 := by omega
                        refine lv_ldiv hx hb dX12_size_163 (l_nz rfl zw410) ?_
                        refine lv_topl (fun w410 ew410 => ?_)
                        obtain ⟨v411, ev411⟩ : ∃ y : Int32, w410.toInt32 = y := ⟨_, rfl⟩
                        refine lv_l2i (v := v411) hx hb dX12_size_164 ev411 ?_
                        have hP9 : va_P (dC, dI) classes (WM h g ca iv lv fa la) H := hP
                        have hD9 : va_D A (WM h g ca iv lv fa la) := hD
                        exact W.iret (v := v411) hx hb hr (fun t ht9 hW => ⟨⟨v411, (iv, lv, fa, la), rfl, ⟨(show (((v411 : Int32).toInt = -100001 ∧ ¬ (0 ≤ (a).toInt ∧ (a).toInt < (iv 12 1).toInt)) ∨ ((v411 : Int32).toInt = -100002 ∧ (0 ≤ (a).toInt ∧ (a).toInt < (iv 12 1).toInt) ∧ ¬ (0 ≤ (b).toInt ∧ (b).toInt ≤ 3)) ∨ ((0 ≤ (a).toInt ∧ (a).toInt < (iv 12 1).toInt) ∧ (0 ≤ (b).toInt ∧ (b).toInt ≤ 3) ∧ (((fa 12 51) ((a).toInt).toNat).toInt) = 0 ∧ (v411 : Int32).toInt = -1) ∨ ((0 ≤ (a).toInt ∧ (a).toInt < (iv 12 1).toInt) ∧ (0 ≤ (b).toInt ∧ (b).toInt ≤ 3) ∧ 0 < (((fa 12 51) ((a).toInt).toNat).toInt) ∧ (v411 : Int32).toInt = szF (sI (fun k : Nat => 2 * ((fa 12 52) (12 * ((a).toInt).toNat + k)).toInt) ((((fa 12 51) ((a).toInt).toNat).toInt)).toNat) (qI (fun k : Nat => 2 * ((fa 12 52) (12 * ((a).toInt).toNat + k)).toInt) ((((fa 12 51) ((a).toInt).toNat).toInt)).toNat) (((fa 12 51) ((a).toInt).toNat).toInt) (b).toInt)) from Or.inr (Or.inr (Or.inr ⟨⟨by omega, by omega⟩, ⟨by omega, by omega⟩, by omega, (by
                              have hU : (x390_4 : Int64).toInt = sI (fun k : Nat => 2 * (fa 12 52 (12 * (a.toInt).toNat + k)).toInt) ((fa 12 51 (a.toInt).toNat).toInt).toNat := hsu
                              have hD : ((v6.toInt64) : Int64).toInt = (fa 12 51 (a.toInt).toNat).toInt := ((Int32.toInt_toInt64 v6).trans hn9)
                              have hg8 := xr407_0
                              rw [hU, hD] at hg8
                              have hm9 := l_divp ew410 hD hg8 (by omega) (by omega)
                              have hp8 := gN_pos (x := sI (fun k : Nat => 2 * (fa 12 52 (12 * (a.toInt).toNat + k)).toInt) ((fa 12 51 (a.toInt).toNat).toInt).toNat) (y := (fa 12 51 (a.toInt).toNat).toInt) (by omega)
                              have hi1 := div_iz (x := (fa 12 51 (a.toInt).toNat).toInt) (y := gN (sI (fun k : Nat => 2 * (fa 12 52 (12 * (a.toInt).toNat + k)).toInt) ((fa 12 51 (a.toInt).toNat).toInt).toNat) ((fa 12 51 (a.toInt).toNat).toInt)) (by omega) hp8
                              have hv9 := l2i_iz ev411 hm9 (by omega) (by omega)
                              unfold szF
                              rw [if_pos (by omega), if_neg (by omega)]
                              omega)⟩))), trivial, rfl⟩, by rw [ht9]; exact hP9, hD9⟩, hS.F ht9⟩) hS.2.2 dX12_size_165
                      · have fc409 := z_eq (rfl : (v408).toInt = _) (by decide : (0 : Int32).toInt = 0) c409
                        refine lv_lload hx hb dX12_size_151 (lv_at hl 2 rfl) ?_
                        refine lv_lload hx hb dX12_size_153 (lv_at hl 0 rfl) ?_
                        have zw412 : (r407 : Int64).toInt ≠ 0 := by omega
                        refine lv_ldiv hx hb dX12_size_155 (l_nz rfl zw412) ?_
                        refine lv_topl (fun w412 ew412 => ?_)
                        refine lv_goto (tgt := 164) hx hb dX12_size_156 (by decide) ?_
                        obtain ⟨v413, ev413⟩ : ∃ y : Int32, w412.toInt32 = y := ⟨_, rfl⟩
                        refine lv_l2i (v := v413) hx hb dX12_size_164 ev413 ?_
                        have hP9 : va_P (dC, dI) classes (WM h g ca iv lv fa la) H := hP
                        have hD9 : va_D A (WM h g ca iv lv fa la) := hD
                        exact W.iret (v := v413) hx hb hr (fun t ht9 hW => ⟨⟨v413, (iv, lv, fa, la), rfl, ⟨(show (((v413 : Int32).toInt = -100001 ∧ ¬ (0 ≤ (a).toInt ∧ (a).toInt < (iv 12 1).toInt)) ∨ ((v413 : Int32).toInt = -100002 ∧ (0 ≤ (a).toInt ∧ (a).toInt < (iv 12 1).toInt) ∧ ¬ (0 ≤ (b).toInt ∧ (b).toInt ≤ 3)) ∨ ((0 ≤ (a).toInt ∧ (a).toInt < (iv 12 1).toInt) ∧ (0 ≤ (b).toInt ∧ (b).toInt ≤ 3) ∧ (((fa 12 51) ((a).toInt).toNat).toInt) = 0 ∧ (v413 : Int32).toInt = -1) ∨ ((0 ≤ (a).toInt ∧ (a).toInt < (iv 12 1).toInt) ∧ (0 ≤ (b).toInt ∧ (b).toInt ≤ 3) ∧ 0 < (((fa 12 51) ((a).toInt).toNat).toInt) ∧ (v413 : Int32).toInt = szF (sI (fun k : Nat => 2 * ((fa 12 52) (12 * ((a).toInt).toNat + k)).toInt) ((((fa 12 51) ((a).toInt).toNat).toInt)).toNat) (qI (fun k : Nat => 2 * ((fa 12 52) (12 * ((a).toInt).toNat + k)).toInt) ((((fa 12 51) ((a).toInt).toNat).toInt)).toNat) (((fa 12 51) ((a).toInt).toNat).toInt) (b).toInt)) from Or.inr (Or.inr (Or.inr ⟨⟨by omega, by omega⟩, ⟨by omega, by omega⟩, by omega, (by
                              have hU : (x390_4 : Int64).toInt = sI (fun k : Nat => 2 * (fa 12 52 (12 * (a.toInt).toNat + k)).toInt) ((fa 12 51 (a.toInt).toNat).toInt).toNat := hsu
                              have hD : ((v6.toInt64) : Int64).toInt = (fa 12 51 (a.toInt).toNat).toInt := ((Int32.toInt_toInt64 v6).trans hn9)
                              have hg8 := xr407_0
                              rw [hU, hD] at hg8
                              have hm9 := l_divp ew412 hU hg8 (by omega) (by omega)
                              have hp8 := gN_pos (x := sI (fun k : Nat => 2 * (fa 12 52 (12 * (a.toInt).toNat + k)).toInt) ((fa 12 51 (a.toInt).toNat).toInt).toNat) (y := (fa 12 51 (a.toInt).toNat).toInt) (by omega)
                              have hi1 := div_iz (x := sI (fun k : Nat => 2 * (fa 12 52 (12 * (a.toInt).toNat + k)).toInt) ((fa 12 51 (a.toInt).toNat).toInt).toNat) (y := gN (sI (fun k : Nat => 2 * (fa 12 52 (12 * (a.toInt).toNat + k)).toInt) ((fa 12 51 (a.toInt).toNat).toInt).toNat) ((fa 12 51 (a.toInt).toNat).toInt)) (by omega) hp8
                              have hv9 := l2i_iz ev413 hm9 (by omega) (by omega)
                              unfold szF
                              rw [if_pos (by omega), if_pos (by omega)]
                              omega)⟩))), trivial, rfl⟩, by rw [ht9]; exact hP9, hD9⟩, hS.F ht9⟩) hS.2.2 dX12_size_165
                · have fc392 := z_nle (rfl : (v6).toInt = _) (rfl : (x390_8).toInt = _) c392
                  refine lv_ldc2 hx hb hown (ht _ m_1390) dX12_size_54 ?_
                  refine lv_aload_n hx hb dX12_size_57 rfl (lv_at hl 4 rfl) ?_
                  refine gM_12_52 hx hb ht hown hK hP m_1191 dX12_size_58 ?_
                  refine lv_bipush (v := 12) hx hb dX12_size_61 (by decide) ?_
                  refine lv_iload_n hx hb dX12_size_63 rfl (lv_at hl 5 rfl) ?_
                  refine lv_imul hx hb dX12_size_64 ?_
                  refine lv_topi (fun v414 ev414 => ?_)
                  have tv414 := z_mul ev414 (by decide : (12 : Int32).toInt = 12) (rfl : (a).toInt = _) (by omega) (by omega)
                  refine lv_iload hx hb dX12_size_65 (lv_at hl 0 rfl) ?_
                  refine lv_iadd hx hb dX12_size_67 ?_
                  refine lv_topi (fun v415 ev415 => ?_)
                  have tv415 := z_add ev415 (rfl : (v414).toInt = _) (rfl : (x390_8).toInt = _) (by omega) (by omega)
                  refine lM_12_52 hx hb hK hP (f := (fa 12 52)) rfl (vp_in_iff.mpr ⟨by omega, by omega⟩) dX12_size_68 ?_
                  refine lv_topi (fun v416 ev416 => ?_)
                  have hi9 : (v415 : Int32).toNatClampNeg = 12 * (a.toInt).toNat + ((x390_8 : Int32).toInt).toNat := by show (v415 : Int32).toInt.toNat = _; omega
                  have hx9 := congrArg Int32.toInt ev416
                  rw [hi9] at hx9
                  have hy9 := hJV (12 * (a.toInt).toNat + ((x390_8 : Int32).toInt).toNat)
                  have : 0 ≤ (v416 : Int32).toInt ∧ (v416 : Int32).toInt ≤ 999 := ⟨by omega, by omega⟩
                  refine lv_i2l (v := (v416.toInt64)) hx hb dX12_size_69 rfl ?_
                  refine lv_lmul hx hb dX12_size_70 ?_
                  refine lv_topl (fun w417 ew417 => ?_)
                  have tw417 := l_mul ew417 (by decide : (2 : Int64).toInt = 2) ((Int32.toInt_toInt64 v416).trans rfl) (by omega) (by omega)
                  refine lv_lstore (lv' := [(9, .long w417), (8, .int x390_8), (6, .long x390_6), (4, .long x390_4), (3, .int v6), (0, .ref h), (1, .int a), (2, .int b)]) hx hb dX12_size_71 hl (by decide) rfl (fun ls hl => ?_)
                  refine lv_lload hx hb dX12_size_73 (lv_at hl 3 rfl) ?_
                  refine lv_lload hx hb dX12_size_75 (lv_at hl 0 rfl) ?_
                  have hb9 := sI_b (f := (fun k : Nat => 2 * (fa 12 52 (12 * (a.toInt).toNat + k)).toInt)) ((x390_8 : Int32).toInt).toNat (fun j hj => (by have h5 := hJV (12 * (a.toInt).toNat + j); show 0 ≤ 2 * (fa 12 52 (12 * (a.toInt).toNat + j)).toInt ∧ 2 * (fa 12 52 (12 * (a.toInt).toNat + j)).toInt ≤ 1998; omega))
                  have : 0 ≤ (x390_4 : Int64).toInt ∧ (x390_4 : Int64).toInt ≤ 23976 := ⟨by omega, by omega⟩
                  refine lv_ladd hx hb dX12_size_77 ?_
                  refine lv_topl (fun w418 ew418 => ?_)
                  have tw418 := l_add ew418 (rfl : (x390_4).toInt = _) (rfl : (w417).toInt = _) (by omega) (by omega)
                  refine lv_lstore (lv' := [(4, .long w418), (9, .long w417), (8, .int x390_8), (6, .long x390_6), (3, .int v6), (0, .ref h), (1, .int a), (2, .int b)]) hx hb dX12_size_78 hl (by decide) rfl (fun ls hl => ?_)
                  refine lv_lload hx hb dX12_size_80 (lv_at hl 3 rfl) ?_
                  refine lv_lload hx hb dX12_size_82 (lv_at hl 1 rfl) ?_
                  refine lv_lload hx hb dX12_size_84 (lv_at hl 1 rfl) ?_
                  refine lv_lmul hx hb dX12_size_86 ?_
                  refine lv_topl (fun w419 ew419 => ?_)
                  have tw419 := l_mulb (a1 := 0) (b1 := 1998) (a2 := 0) (b2 := 1998) ew419 (rfl : (w417 : Int64).toInt = _) (rfl : (w417 : Int64).toInt = _) (by omega) (by omega) (by omega) (by omega) (by decide) (by decide) (by decide)
                  have : 0 ≤ w419.toInt ∧ w419.toInt ≤ 3992004 := ⟨by omega, by omega⟩
                  have hm8 := mul_b (x := (w417 : Int64).toInt) (y := (w417 : Int64).toInt) (a1 := 0) (b1 := 1998) (a2 := 0) (b2 := 1998) (by omega) (by omega) (by omega) (by omega) (by decide) (by decide)
                  have hm9 := l_mul ew419 (rfl : (w417 : Int64).toInt = _) (rfl : (w417 : Int64).toInt = _) (by omega) (by omega)
                  have : 0 ≤ (x390_6 : Int64).toInt ∧ (x390_6 : Int64).toInt ≤ 47904048 := ⟨by omega, by omega⟩
                  refine lv_ladd hx hb dX12_size_87 ?_
                  refine lv_topl (fun w420 ew420 => ?_)
                  have tw420 := l_add ew420 (rfl : (x390_6).toInt = _) (rfl : (w419).toInt = _) (by omega) (by omega)
                  refine lv_lstore (lv' := [(6, .long w420), (4, .long w418), (9, .long w417), (8, .int x390_8), (3, .int v6), (0, .ref h), (1, .int a), (2, .int b)]) hx hb dX12_size_88 hl (by decide) rfl (fun ls hl => ?_)
                  obtain ⟨v421, ev421⟩ : ∃ y : Int32, y = x390_8 + 1 := ⟨_, rfl⟩
                  have tv421 := z_add ev421 rfl (by decide : (1 : Int32).toInt = 1) (by omega) (by omega)
                  refine lv_iinc (v := v421) (lv' := [(8, .int v421), (6, .long w420), (4, .long w418), (9, .long w417), (3, .int v6), (0, .ref h), (1, .int a), (2, .int b)]) hx hb dX12_size_90 hl (k := 3) rfl (by rw [ev421]; rfl) (by decide) rfl (fun ls hl => ?_)
                  refine lv_goto (tgt := 48) hx hb dX12_size_93 (by decide) ?_
                  exact ih391 v421 w420 w418 ⟨by omega, by omega⟩ (show (w418 : Int64).toInt = sI (fun k : Nat => 2 * ((fa 12 52) (12 * ((a).toInt).toNat + k)).toInt) ((v421 : Int32).toInt).toNat from (by have hc := sI_s (f := (fun k : Nat => 2 * (fa 12 52 (12 * (a.toInt).toNat + k)).toInt)) (k := (x390_8 : Int32).toInt) (k' := (v421 : Int32).toInt) (x := (w417 : Int64).toInt) (by omega) (by omega) (show (w417 : Int64).toInt = 2 * (fa 12 52 (12 * (a.toInt).toNat + ((x390_8 : Int32).toInt).toNat)).toInt from by omega); have hq9 := hq391_0; rw [hc]; omega)) (show (w420 : Int64).toInt = qI (fun k : Nat => 2 * ((fa 12 52) (12 * ((a).toInt).toNat + k)).toInt) ((v421 : Int32).toInt).toNat from (by have hc := qI_s (f := (fun k : Nat => 2 * (fa 12 52 (12 * (a.toInt).toNat + k)).toInt)) (k := (x390_8 : Int32).toInt) (k' := (v421 : Int32).toInt) (x := (w417 : Int64).toInt) (by omega) (by omega) (show (w417 : Int64).toInt = 2 * (fa 12 52 (12 * (a.toInt).toNat + ((x390_8 : Int32).toInt).toNat)).toInt from by omega); have hq9 := hq391_1; rw [hc]; omega)) (show (v421 : Int32).toInt ≤ (((fa 12 51) ((a).toInt).toNat).toInt) from by omega) (by omega) _ _ ls hP hD hS (lv_sub hl [0, 1, 2, 4, 5, 6, 7] rfl)
            have : (0 : Int32).toInt = 0 := (by decide)
            have : (0 : Int64).toInt = 0 := (by decide)
            exact lp391 13 0 0 0 ⟨by decide, by decide⟩ (show (0 : Int64).toInt = sI (fun k : Nat => 2 * ((fa 12 52) (12 * ((a).toInt).toNat + k)).toInt) ((0 : Int32).toInt).toNat from (by rw [show ((0 : Int32).toInt).toNat = 0 from by decide]; exact (by decide : (0 : Int64).toInt = 0))) (show (0 : Int64).toInt = qI (fun k : Nat => 2 * ((fa 12 52) (12 * ((a).toInt).toNat + k)).toInt) ((0 : Int32).toInt).toNat from (by rw [show ((0 : Int32).toInt).toNat = 0 from by decide]; exact (by decide : (0 : Int64).toInt = 0))) (show (0 : Int32).toInt ≤ (((fa 12 51) ((a).toInt).toNat).toInt) from by omega) (by first | decide | omega) _ _ ls hP hD hS (lv_sub hl [0, 1, 2, 3, 4, 5, 6] rfl)
          · have fc7 := z_eq (rfl : (v6).toInt = _) (by decide : (0 : Int32).toInt = 0) c7
            refine lv_iconst (v := (-1)) hx hb dX12_size_37 (by decide) ?_
            have : ((-1) : Int32).toInt = (-1) := (by decide)
            have hP9 : va_P (dC, dI) classes (WM h g ca iv lv fa la) s.heap := hP
            have hD9 : va_D A (WM h g ca iv lv fa la) := hD
            exact W.iret (v := (-1)) hx hb hr (fun t ht9 hW => ⟨⟨(-1), (iv, lv, fa, la), rfl, ⟨(show ((((-1) : Int32).toInt = -100001 ∧ ¬ (0 ≤ (a).toInt ∧ (a).toInt < (iv 12 1).toInt)) ∨ (((-1) : Int32).toInt = -100002 ∧ (0 ≤ (a).toInt ∧ (a).toInt < (iv 12 1).toInt) ∧ ¬ (0 ≤ (b).toInt ∧ (b).toInt ≤ 3)) ∨ ((0 ≤ (a).toInt ∧ (a).toInt < (iv 12 1).toInt) ∧ (0 ≤ (b).toInt ∧ (b).toInt ≤ 3) ∧ (((fa 12 51) ((a).toInt).toNat).toInt) = 0 ∧ ((-1) : Int32).toInt = -1) ∨ ((0 ≤ (a).toInt ∧ (a).toInt < (iv 12 1).toInt) ∧ (0 ≤ (b).toInt ∧ (b).toInt ≤ 3) ∧ 0 < (((fa 12 51) ((a).toInt).toNat).toInt) ∧ ((-1) : Int32).toInt = szF (sI (fun k : Nat => 2 * ((fa 12 52) (12 * ((a).toInt).toNat + k)).toInt) ((((fa 12 51) ((a).toInt).toNat).toInt)).toNat) (qI (fun k : Nat => 2 * ((fa 12 52) (12 * ((a).toInt).toNat + k)).toInt) ((((fa 12 51) ((a).toInt).toNat).toInt)).toNat) (((fa 12 51) ((a).toInt).toNat).toInt) (b).toInt)) from Or.inr (Or.inr (Or.inl ⟨⟨by omega, by omega⟩, ⟨by omega, by omega⟩, by omega, by omega⟩))), trivial, rfl⟩, by rw [ht9]; exact hP9, hD9⟩, hS.F ht9⟩) hS.2.2 dX12_size_38
        · exact absurd c5 (by decide)
      · skip
        refine lv_if_ne (tgt := 26) hx hb dX12_size_20 (by decide) (fun c422 => ?_) (fun c422 => ?_)
        · exact absurd rfl c422
        · skip
          refine lv_ldc hx hb hown (ht _ m_1373) dX12_size_23 ?_
          have : ((-100002) : Int32).toInt = (-100002) := (by decide)
          have hP9 : va_P (dC, dI) classes (WM h g ca iv lv fa la) s.heap := hP
          have hD9 : va_D A (WM h g ca iv lv fa la) := hD
          exact W.iret (v := (-100002)) hx hb hr (fun t ht9 hW => ⟨⟨(-100002), (iv, lv, fa, la), rfl, ⟨(show ((((-100002) : Int32).toInt = -100001 ∧ ¬ (0 ≤ (a).toInt ∧ (a).toInt < (iv 12 1).toInt)) ∨ (((-100002) : Int32).toInt = -100002 ∧ (0 ≤ (a).toInt ∧ (a).toInt < (iv 12 1).toInt) ∧ ¬ (0 ≤ (b).toInt ∧ (b).toInt ≤ 3)) ∨ ((0 ≤ (a).toInt ∧ (a).toInt < (iv 12 1).toInt) ∧ (0 ≤ (b).toInt ∧ (b).toInt ≤ 3) ∧ (((fa 12 51) ((a).toInt).toNat).toInt) = 0 ∧ ((-100002) : Int32).toInt = -1) ∨ ((0 ≤ (a).toInt ∧ (a).toInt < (iv 12 1).toInt) ∧ (0 ≤ (b).toInt ∧ (b).toInt ≤ 3) ∧ 0 < (((fa 12 51) ((a).toInt).toNat).toInt) ∧ ((-100002) : Int32).toInt = szF (sI (fun k : Nat => 2 * ((fa 12 52) (12 * ((a).toInt).toNat + k)).toInt) ((((fa 12 51) ((a).toInt).toNat).toInt)).toNat) (qI (fun k : Nat => 2 * ((fa 12 52) (12 * ((a).toInt).toNat + k)).toInt) ((((fa 12 51) ((a).toInt).toNat).toInt)).toNat) (((fa 12 51) ((a).toInt).toNat).toInt) (b).toInt)) from Or.inr (Or.inl ⟨by omega, ⟨by omega, by omega⟩, by omega⟩)), trivial, rfl⟩, by rw [ht9]; exact hP9, hD9⟩, hS.F ht9⟩) hS.2.2 dX12_size_25
    · exact absurd rfl c3
