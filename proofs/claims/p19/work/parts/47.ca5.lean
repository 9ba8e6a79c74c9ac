/-! ===== ca5 ===== -/
set_option maxHeartbeats 4000000 in
set_option maxRecDepth 100000 in
/-- X12_sumUp -/
theorem c_X12_sumUp_q (l : Launch) (dC : Nat → ClassId) (dI : Nat → Nat → Nat) (sz : Nat) (h : Nat) (g : Nat → Nat → Nat) (ca : Nat → Nat → ClassId) (iv : Nat → Nat → Int32) (lv : Nat → Nat → Int64) (fa : Nat → Nat → Nat → Int32) (la : Nat → Nat → Nat → Int64) (hI : IX iv fa) (a : Int32) (b : Int32) (d : Int32) (hJR : JRf (iv 12 3).toInt (fa 12 7)) : Met l yX12_sumUp (wc yX12_sumUp cX12_sumUp 6 (some .int)) ({ frames := 1, cells := 0, slots := 0, locals := 22 } : Room) (pW (dC, dI) classes (WM h g ca iv lv fa la) (TM ca) sz [.ref h, .int a, .int b, .int d]) (va_Qi (fun r (u : SS) => ∃ (ni_12_19 : Int32) (nl_12_17 : Int64) (nl_12_18 : Int64), (0 ≤ r.toInt) ∧ (r.toInt ≤ 60) ∧ (0 ≤ (nl_12_18).toInt) ∧ ((nl_12_18).toInt ≤ 599940) ∧ (100 * r.toInt ≤ (nl_12_18).toInt) ∧ ((nl_12_17).toInt = (caL (cyP (fa 12 4) (fa 12 5) (fa 12 11) (fa 12 12) a.toInt d.toInt b.toInt) (owY (fa 12 9) (fa 12 10) (iv 12 20).toInt (iv 12 21).toInt (iv 12 22).toInt) (fa 12 8) ((iv 12 3).toInt).toNat).toInt) ∧ ((nl_12_18).toInt = (caL (cyP (fa 12 4) (fa 12 5) (fa 12 11) (fa 12 12) a.toInt d.toInt b.toInt) (owY (fa 12 9) (fa 12 10) (iv 12 20).toInt (iv 12 21).toInt (iv 12 22).toInt) (fa 12 7) ((iv 12 3).toInt).toNat).toInt) ∧ ((ni_12_19).toInt = (caC (cyP (fa 12 4) (fa 12 5) (fa 12 11) (fa 12 12) a.toInt d.toInt b.toInt) (owY (fa 12 9) (fa 12 10) (iv 12 20).toInt (iv 12 21).toInt (iv 12 22).toInt) ((iv 12 3).toInt).toNat).toInt) ∧ (r.toInt = (ni_12_19).toInt) ∧ (True) ∧ u = ((u2 iv 12 19 ni_12_19), (u2 (u2 lv 12 17 nl_12_17) 12 18 nl_12_18), fa, la)) (bM (dC, dI) h g ca (va_A (WM h g ca iv lv fa la) sz)) (va_A (WM h g ca iv lv fa la) sz)) 0 0 (va_A (WM h g ca iv lv fa la) sz) := by
  refine Met.ofW (cc := cX12_sumUp) (maxL := 6) (ret := (some .int)) (by decide) rfl ?_
  intro p e s m args below meth c s₁ B hml hv
  obtain ⟨rfl, hsz, hP, hK, hD0⟩ := hv
  have hx := B.exec
  have hb := B.bytes
  have hr := B.returns
  have ht := tb_tl (atoms_spec (ws := wc yX12_sumUp cX12_sumUp 6 (some .int)) B.pre)
  have hown : s.vm.findClass RX12 = some m.cls := findClass_of_methodNamed B.named
  have hlocks := B.notSynchronized
  subst hsz
  have hD := hD0.self (sz := s.heap.size)
  generalize hAe : va_A (WM h g ca iv lv fa la) s.heap.size = A at hD ⊢
  have hA : ∀ q : Nat, s.heap.size ≤ q → A q := fun q h => by rw [← hAe]; exact Or.inr h
  have hS : va_S A s.heap s.heap [] := va_S.rf
  have hl := lv_entry [.ref h, .int a, .int b, .int d] (n := 6) (Nat.le_of_ble_eq_true rfl)
  rw [lg_entry_eq]
  generalize (lg_sl [.ref h, .int a, .int b, .int d] ++ List.replicate (6 - (lg_sl [.ref h, .int a, .int b, .int d]).length) Slot.unset).toArray = ls at hl ⊢
  have hl : lv_has ls 6 [(0, .ref h), (1, .int a), (2, .int b), (3, .int d)] := hl
  refine lv_aload_n hx hb dX12_sumUp_0 rfl (lv_at hl 0 rfl) ?_
  refine lv_lconst (v := 0) hx hb dX12_sumUp_1 (by decide) ?_
  refine pM_12_17 (v := 0) hx hb ht hown hK hP hD hS m_1156 dX12_sumUp_2 (fun H locs hP hD hS => ?_)
  refine lv_aload_n hx hb dX12_sumUp_5 rfl (lv_at hl 0 rfl) ?_
  refine lv_lconst (v := 0) hx hb dX12_sumUp_6 (by decide) ?_
  refine pM_12_18 (v := 0) hx hb ht hown hK hP hD hS m_1157 dX12_sumUp_7 (fun H locs hP hD hS => ?_)
  refine lv_aload_n hx hb dX12_sumUp_10 rfl (lv_at hl 0 rfl) ?_
  refine lv_iconst (v := 0) hx hb dX12_sumUp_11 (by decide) ?_
  refine pM_12_19 (v := 0) hx hb ht hown hK hP hD hS m_1158 dX12_sumUp_12 (fun H locs hP hD hS => ?_)
  refine lv_iconst (v := 0) hx hb dX12_sumUp_15 (by decide) ?_
  refine lv_istore (lv' := [(4, .int 0), (0, .ref h), (1, .int a), (2, .int b), (3, .int d)]) hx hb dX12_sumUp_16 hl (by decide) rfl (fun ls hl => ?_)
  have i_12_3 : 0 ≤ (iv 12 3).toInt ∧ (iv 12 3).toInt ≤ 60 := hI.1 12 3
  have lp1234 : ∀ (nn1234 : Nat) (x1233_4 : Int32) (w1233_i_12_19 : Int32) (w1233_l_12_17 : Int64) (w1233_l_12_18 : Int64), 0 ≤ x1233_4.toInt ∧ x1233_4.toInt ≤ 60 → 0 ≤ (w1233_l_12_18 : Int64).toInt → (w1233_l_12_18 : Int64).toInt ≤ 9999 * (x1233_4 : Int32).toInt → 100 * (w1233_i_12_19 : Int32).toInt ≤ (w1233_l_12_18 : Int64).toInt → 0 ≤ (w1233_i_12_19 : Int32).toInt → (w1233_i_12_19 : Int32).toInt ≤ (x1233_4 : Int32).toInt → ((w1233_l_12_17 : Int64).toInt = (caL (cyP (fa 12 4) (fa 12 5) (fa 12 11) (fa 12 12) (a).toInt (d).toInt (b).toInt) (owY (fa 12 9) (fa 12 10) (iv 12 20).toInt (iv 12 21).toInt (iv 12 22).toInt) (fa 12 8) ((x1233_4 : Int32).toInt).toNat).toInt) → ((w1233_l_12_18 : Int64).toInt = (caL (cyP (fa 12 4) (fa 12 5) (fa 12 11) (fa 12 12) (a).toInt (d).toInt (b).toInt) (owY (fa 12 9) (fa 12 10) (iv 12 20).toInt (iv 12 21).toInt (iv 12 22).toInt) (fa 12 7) ((x1233_4 : Int32).toInt).toNat).toInt) → ((w1233_i_12_19 : Int32).toInt = (caC (cyP (fa 12 4) (fa 12 5) (fa 12 11) (fa 12 12) (a).toInt (d).toInt (b).toInt) (owY (fa 12 9) (fa 12 10) (iv 12 20).toInt (iv 12 21).toInt (iv 12 22).toInt) ((x1233_4 : Int32).toInt).toNat).toInt) → (x1233_4 : Int32).toInt ≤ ((iv 12 3) : Int32).toInt → 60 - x1233_4.toInt < (nn1234 : Int) → ∀ (H : Heap) (locs : List Loc), ∀ (ls : Array Slot), va_P (dC, dI) classes (WM h g ca (u2 iv 12 19 w1233_i_12_19) (u2 (u2 lv 12 17 w1233_l_12_17) 12 18 w1233_l_12_18) fa la) H → va_D A (WM h g ca (u2 iv 12 19 w1233_i_12_19) (u2 (u2 lv 12 17 w1233_l_12_17) 12 18 w1233_l_12_18) fa la) → va_S A s.heap H locs → lv_has ls 6 [(4, .int x1233_4), (0, .ref h), (1, .int a), (2, .int b), (3, .int d)] → W p l e ({ frames := 1, cells := 0, slots := 0, locals := 22 } : Room) s m ([.ref h, .int a, .int b, .int d] : List Value).toArray below meth c H locs 0 0 (MQ below (va_Qi (fun r (u : SS) => ∃ (ni_12_19 : Int32) (nl_12_17 : Int64) (nl_12_18 : Int64), (0 ≤ r.toInt) ∧ (r.toInt ≤ 60) ∧ (0 ≤ (nl_12_18).toInt) ∧ ((nl_12_18).toInt ≤ 599940) ∧ (100 * r.toInt ≤ (nl_12_18).toInt) ∧ ((nl_12_17).toInt = (caL (cyP (fa 12 4) (fa 12 5) (fa 12 11) (fa 12 12) a.toInt d.toInt b.toInt) (owY (fa 12 9) (fa 12 10) (iv 12 20).toInt (iv 12 21).toInt (iv 12 22).toInt) (fa 12 8) ((iv 12 3).toInt).toNat).toInt) ∧ ((nl_12_18).toInt = (caL (cyP (fa 12 4) (fa 12 5) (fa 12 11) (fa 12 12) a.toInt d.toInt b.toInt) (owY (fa 12 9) (fa 12 10) (iv 12 20).toInt (iv 12 21).toInt (iv 12 22).toInt) (fa 12 7) ((iv 12 3).toInt).toNat).toInt) ∧ ((ni_12_19).toInt = (caC (cyP (fa 12 4) (fa 12 5) (fa 12 11) (fa 12 12) a.toInt d.toInt b.toInt) (owY (fa 12 9) (fa 12 10) (iv 12 20).toInt (iv 12 21).toInt (iv 12 22).toInt) ((iv 12 3).toInt).toNat).toInt) ∧ (r.toInt = (ni_12_19).toInt) ∧ (True) ∧ u = ((u2 iv 12 19 ni_12_19), (u2 (u2 lv 12 17 nl_12_17) 12 18 nl_12_18), fa, la)) (bM (dC, dI) h g ca A) A) ([.ref h, .int a, .int b, .int d] : List Value).toArray s 0 0 A) (F0 m 18 ls []) := by
    intro nn1234
    induction nn1234 with
    | zero => intro x1233_4 w1233_i_12_19 w1233_l_12_17 w1233_l_12_18 hx1233_4 hq1234_0 hq1234_1 hq1234_2 hq1234_3 hq1234_4 hq1234_5 hq1234_6 hq1234_7 hq1234_8 hm1234; exfalso; omega
    | succ nn1234 ih1234 =>
      intro x1233_4 w1233_i_12_19 w1233_l_12_17 w1233_l_12_18 hx1233_4 hq1234_0 hq1234_1 hq1234_2 hq1234_3 hq1234_4 hq1234_5 hq1234_6 hq1234_7 hq1234_8 hm1234 H locs ls hP hD hS hl
      refine lv_iload hx hb dX12_sumUp_18 (lv_at hl 0 rfl) ?_
      refine lv_aload_n hx hb dX12_sumUp_20 rfl (lv_at hl 1 rfl) ?_
      refine gM_12_3 hx hb ht hown hK hP m_1142 (v := (iv 12 3)) rfl dX12_sumUp_21 ?_
      refine lv_icmp_ge (tgt := 158) hx hb dX12_sumUp_24 (by decide) (fun c1235 => ?_) (fun c1235 => ?_)
      · have fc1235 := z_le (rfl : ((iv 12 3)).toInt = _) (rfl : (x1233_4).toInt = _) c1235
        refine lv_aload_n hx hb dX12_sumUp_158 rfl (lv_at hl 1 rfl) ?_
        refine gM_12_19 hx hb ht hown hK hP m_1158 (v := w1233_i_12_19) rfl dX12_sumUp_159 ?_
        have hP9 : va_P (dC, dI) classes (WM h g ca (u2 iv 12 19 w1233_i_12_19) (u2 (u2 lv 12 17 w1233_l_12_17) 12 18 w1233_l_12_18) fa la) H := hP
        have hD9 : va_D A (WM h g ca (u2 iv 12 19 w1233_i_12_19) (u2 (u2 lv 12 17 w1233_l_12_17) 12 18 w1233_l_12_18) fa la) := hD
        exact W.iret (v := w1233_i_12_19) hx hb hr (fun t ht9 hW => ⟨⟨w1233_i_12_19, ((u2 iv 12 19 w1233_i_12_19), (u2 (u2 lv 12 17 w1233_l_12_17) 12 18 w1233_l_12_18), fa, la), rfl, ⟨w1233_i_12_19, w1233_l_12_17, w1233_l_12_18, (show 0 ≤ (w1233_i_12_19 : Int32).toInt from by omega), (show (w1233_i_12_19 : Int32).toInt ≤ 60 from by omega), (show 0 ≤ (w1233_l_12_18 : Int64).toInt from by omega), (show (w1233_l_12_18 : Int64).toInt ≤ 599940 from by omega), (show 100 * (w1233_i_12_19 : Int32).toInt ≤ (w1233_l_12_18 : Int64).toInt from by omega), (show (w1233_l_12_17 : Int64).toInt = (caL (cyP (fa 12 4) (fa 12 5) (fa 12 11) (fa 12 12) (a).toInt (d).toInt (b).toInt) (owY (fa 12 9) (fa 12 10) (iv 12 20).toInt (iv 12 21).toInt (iv 12 22).toInt) (fa 12 8) (((iv 12 3) : Int32).toInt).toNat).toInt from (by have hq9 := hq1234_5; have he9 : (x1233_4 : Int32).toInt = (iv 12 3).toInt := (by omega); rw [he9] at hq9; exact hq9)), (show (w1233_l_12_18 : Int64).toInt = (caL (cyP (fa 12 4) (fa 12 5) (fa 12 11) (fa 12 12) (a).toInt (d).toInt (b).toInt) (owY (fa 12 9) (fa 12 10) (iv 12 20).toInt (iv 12 21).toInt (iv 12 22).toInt) (fa 12 7) (((iv 12 3) : Int32).toInt).toNat).toInt from (by have hq9 := hq1234_6; have he9 : (x1233_4 : Int32).toInt = (iv 12 3).toInt := (by omega); rw [he9] at hq9; exact hq9)), (show (w1233_i_12_19 : Int32).toInt = (caC (cyP (fa 12 4) (fa 12 5) (fa 12 11) (fa 12 12) (a).toInt (d).toInt (b).toInt) (owY (fa 12 9) (fa 12 10) (iv 12 20).toInt (iv 12 21).toInt (iv 12 22).toInt) (((iv 12 3) : Int32).toInt).toNat).toInt from (by have hq9 := hq1234_7; have he9 : (x1233_4 : Int32).toInt = (iv 12 3).toInt := (by omega); rw [he9] at hq9; exact hq9)), (show (w1233_i_12_19 : Int32).toInt = (w1233_i_12_19 : Int32).toInt from by omega), trivial, rfl⟩, by rw [ht9]; exact hP9, hD9⟩, hS.F ht9⟩) hS.2.2 dX12_sumUp_162
      · have fc1235 := z_nle (rfl : ((iv 12 3)).toInt = _) (rfl : (x1233_4).toInt = _) c1235
        refine lv_aload_n hx hb dX12_sumUp_27 rfl (lv_at hl 1 rfl) ?_
        refine gM_12_9 hx hb ht hown hK hP m_1148 dX12_sumUp_28 ?_
        refine lv_iload hx hb dX12_sumUp_31 (lv_at hl 0 rfl) ?_
        refine lM_12_9 hx hb hK hP (f := (fa 12 9)) rfl (vp_in_iff.mpr ⟨by omega, by omega⟩) dX12_sumUp_33 ?_
        refine lv_topi (fun v1236 ev1236 => ?_)
        have tv1236 : 0 ≤ v1236.toInt ∧ v1236.toInt ≤ 3 := by rw [ev1236]; exact hI.2 12 9 _
        refine lv_aload_n hx hb dX12_sumUp_34 rfl (lv_at hl 1 rfl) ?_
        refine gM_12_20 hx hb ht hown hK hP m_1159 (v := (iv 12 20)) rfl dX12_sumUp_35 ?_
        refine lv_icmp_eq (tgt := 64) hx hb dX12_sumUp_38 (by decide) (fun c1237 => ?_) (fun c1237 => ?_)
        · have fc1237 := z_eq (rfl : (v1236).toInt = _) (rfl : ((iv 12 20)).toInt = _) c1237
          refine lv_iconst (v := 1) hx hb dX12_sumUp_64 (by decide) ?_
          refine lv_goto (tgt := 69) hx hb dX12_sumUp_65 (by decide) ?_
          refine lv_istore (lv' := [(5, .int 1), (4, .int x1233_4), (0, .ref h), (1, .int a), (2, .int b), (3, .int d)]) hx hb dX12_sumUp_69 hl (by decide) rfl (fun ls hl => ?_)
          refine lv_aload_n hx hb dX12_sumUp_71 rfl (lv_at hl 2 rfl) ?_
          refine gM_12_4 hx hb ht hown hK hP m_1143 dX12_sumUp_72 ?_
          refine lv_iload hx hb dX12_sumUp_75 (lv_at hl 1 rfl) ?_
          refine lM_12_4 hx hb hK hP (f := (fa 12 4)) rfl (vp_in_iff.mpr ⟨by omega, by omega⟩) dX12_sumUp_77 ?_
          refine lv_topi (fun v1238 ev1238 => ?_)
          refine lv_iload_n hx hb dX12_sumUp_78 rfl (lv_at hl 3 rfl) ?_
          refine lv_icmp_ne (tgt := 152) hx hb dX12_sumUp_79 (by decide) (fun c1239 => ?_) (fun c1239 => ?_)
          · have fc1239 := z_ne (rfl : (v1238).toInt = _) (rfl : (a).toInt = _) c1239
            obtain ⟨v1240, ev1240⟩ : ∃ y : Int32, y = x1233_4 + 1 := ⟨_, rfl⟩
            have tv1240 := z_add ev1240 rfl (by decide : (1 : Int32).toInt = 1) (by omega) (by omega)
            refine lv_iinc (v := v1240) (lv' := [(4, .int v1240), (5, .int 1), (0, .ref h), (1, .int a), (2, .int b), (3, .int d)]) hx hb dX12_sumUp_152 hl (k := 1) rfl (by rw [ev1240]; rfl) (by decide) rfl (fun ls hl => ?_)
            refine lv_goto (tgt := 18) hx hb dX12_sumUp_155 (by decide) ?_
            exact ih1234 v1240 w1233_i_12_19 w1233_l_12_17 w1233_l_12_18 ⟨by omega, by omega⟩ (show 0 ≤ (w1233_l_12_18 : Int64).toInt from by omega) (show (w1233_l_12_18 : Int64).toInt ≤ 9999 * (v1240 : Int32).toInt from by omega) (show 100 * (w1233_i_12_19 : Int32).toInt ≤ (w1233_l_12_18 : Int64).toInt from by omega) (show 0 ≤ (w1233_i_12_19 : Int32).toInt from by omega) (show (w1233_i_12_19 : Int32).toInt ≤ (v1240 : Int32).toInt from by omega) (show (w1233_l_12_17 : Int64).toInt = (caL (cyP (fa 12 4) (fa 12 5) (fa 12 11) (fa 12 12) (a).toInt (d).toInt (b).toInt) (owY (fa 12 9) (fa 12 10) (iv 12 20).toInt (iv 12 21).toInt (iv 12 22).toInt) (fa 12 8) ((v1240 : Int32).toInt).toNat).toInt from (by
                  have := congrArg Int32.toInt (show v1236 = fa 12 9 ((x1233_4 : Int32).toInt).toNat from ev1236)
                  have := congrArg Int32.toInt (show v1238 = fa 12 4 ((x1233_4 : Int32).toInt).toNat from ev1238)
                  have hs9 : ((v1240 : Int32).toInt).toNat = ((x1233_4 : Int32).toInt).toNat + 1 := by omega
                  have hc : ¬ (((fa 12 4 ((x1233_4 : Int32).toInt).toNat).toInt = a.toInt ∧ (fa 12 5 ((x1233_4 : Int32).toInt).toNat).toInt = b.toInt ∧ (fa 12 11 ((x1233_4 : Int32).toInt).toNat).toInt ≤ d.toInt ∧ ((fa 12 12 ((x1233_4 : Int32).toInt).toNat).toInt < 0 ∨ d.toInt < (fa 12 12 ((x1233_4 : Int32).toInt).toNat).toInt)) ∧ ¬ ((fa 12 9 ((x1233_4 : Int32).toInt).toNat).toInt = (iv 12 20).toInt ∨ (fa 12 10 ((x1233_4 : Int32).toInt).toNat).toInt = (iv 12 21).toInt ∨ ((((x1233_4 : Int32).toInt).toNat : Nat) : Int) = (iv 12 22).toInt)) := by omega
                  rw [caL_n hs9 hc]; exact hq1234_5)) (show (w1233_l_12_18 : Int64).toInt = (caL (cyP (fa 12 4) (fa 12 5) (fa 12 11) (fa 12 12) (a).toInt (d).toInt (b).toInt) (owY (fa 12 9) (fa 12 10) (iv 12 20).toInt (iv 12 21).toInt (iv 12 22).toInt) (fa 12 7) ((v1240 : Int32).toInt).toNat).toInt from (by
                  have := congrArg Int32.toInt (show v1236 = fa 12 9 ((x1233_4 : Int32).toInt).toNat from ev1236)
                  have := congrArg Int32.toInt (show v1238 = fa 12 4 ((x1233_4 : Int32).toInt).toNat from ev1238)
                  have hs9 : ((v1240 : Int32).toInt).toNat = ((x1233_4 : Int32).toInt).toNat + 1 := by omega
                  have hc : ¬ (((fa 12 4 ((x1233_4 : Int32).toInt).toNat).toInt = a.toInt ∧ (fa 12 5 ((x1233_4 : Int32).toInt).toNat).toInt = b.toInt ∧ (fa 12 11 ((x1233_4 : Int32).toInt).toNat).toInt ≤ d.toInt ∧ ((fa 12 12 ((x1233_4 : Int32).toInt).toNat).toInt < 0 ∨ d.toInt < (fa 12 12 ((x1233_4 : Int32).toInt).toNat).toInt)) ∧ ¬ ((fa 12 9 ((x1233_4 : Int32).toInt).toNat).toInt = (iv 12 20).toInt ∨ (fa 12 10 ((x1233_4 : Int32).toInt).toNat).toInt = (iv 12 21).toInt ∨ ((((x1233_4 : Int32).toInt).toNat : Nat) : Int) = (iv 12 22).toInt)) := by omega
                  rw [caL_n hs9 hc]; exact hq1234_6)) (show (w1233_i_12_19 : Int32).toInt = (caC (cyP (fa 12 4) (fa 12 5) (fa 12 11) (fa 12 12) (a).toInt (d).toInt (b).toInt) (owY (fa 12 9) (fa 12 10) (iv 12 20).toInt (iv 12 21).toInt (iv 12 22).toInt) ((v1240 : Int32).toInt).toNat).toInt from (by
                  have := congrArg Int32.toInt (show v1236 = fa 12 9 ((x1233_4 : Int32).toInt).toNat from ev1236)
                  have := congrArg Int32.toInt (show v1238 = fa 12 4 ((x1233_4 : Int32).toInt).toNat from ev1238)
                  have hs9 : ((v1240 : Int32).toInt).toNat = ((x1233_4 : Int32).toInt).toNat + 1 := by omega
                  have hc : ¬ (((fa 12 4 ((x1233_4 : Int32).toInt).toNat).toInt = a.toInt ∧ (fa 12 5 ((x1233_4 : Int32).toInt).toNat).toInt = b.toInt ∧ (fa 12 11 ((x1233_4 : Int32).toInt).toNat).toInt ≤ d.toInt ∧ ((fa 12 12 ((x1233_4 : Int32).toInt).toNat).toInt < 0 ∨ d.toInt < (fa 12 12 ((x1233_4 : Int32).toInt).toNat).toInt)) ∧ ¬ ((fa 12 9 ((x1233_4 : Int32).toInt).toNat).toInt = (iv 12 20).toInt ∨ (fa 12 10 ((x1233_4 : Int32).toInt).toNat).toInt = (iv 12 21).toInt ∨ ((((x1233_4 : Int32).toInt).toNat : Nat) : Int) = (iv 12 22).toInt)) := by omega
                  rw [caC_n hs9 hc]; exact hq1234_7)) (show (v1240 : Int32).toInt ≤ ((iv 12 3) : Int32).toInt from by omega) (by omega) _ _ ls hP hD hS (lv_sub hl [0, 2, 3, 4, 5] rfl)
          · have fc1239 := z_eq (rfl : (v1238).toInt = _) (rfl : (a).toInt = _) c1239
            refine lv_aload_n hx hb dX12_sumUp_82 rfl (lv_at hl 2 rfl) ?_
            refine gM_12_5 hx hb ht hown hK hP m_1144 dX12_sumUp_83 ?_
            refine lv_iload hx hb dX12_sumUp_86 (lv_at hl 1 rfl) ?_
            refine lM_12_5 hx hb hK hP (f := (fa 12 5)) rfl (vp_in_iff.mpr ⟨by omega, by omega⟩) dX12_sumUp_88 ?_
            refine lv_topi (fun v1241 ev1241 => ?_)
            refine lv_iload_n hx hb dX12_sumUp_89 rfl (lv_at hl 4 rfl) ?_
            refine lv_icmp_ne (tgt := 152) hx hb dX12_sumUp_90 (by decide) (fun c1242 => ?_) (fun c1242 => ?_)
            · have fc1242 := z_ne (rfl : (v1241).toInt = _) (rfl : (b).toInt = _) c1242
              obtain ⟨v1243, ev1243⟩ : ∃ y : Int32, y = x1233_4 + 1 := ⟨_, rfl⟩
              have tv1243 := z_add ev1243 rfl (by decide : (1 : Int32).toInt = 1) (by omega) (by omega)
              refine lv_iinc (v := v1243) (lv' := [(4, .int v1243), (5, .int 1), (0, .ref h), (1, .int a), (2, .int b), (3, .int d)]) hx hb dX12_sumUp_152 hl (k := 1) rfl (by rw [ev1243]; rfl) (by decide) rfl (fun ls hl => ?_)
              refine lv_goto (tgt := 18) hx hb dX12_sumUp_155 (by decide) ?_
              exact ih1234 v1243 w1233_i_12_19 w1233_l_12_17 w1233_l_12_18 ⟨by omega, by omega⟩ (show 0 ≤ (w1233_l_12_18 : Int64).toInt from by omega) (show (w1233_l_12_18 : Int64).toInt ≤ 9999 * (v1243 : Int32).toInt from by omega) (show 100 * (w1233_i_12_19 : Int32).toInt ≤ (w1233_l_12_18 : Int64).toInt from by omega) (show 0 ≤ (w1233_i_12_19 : Int32).toInt from by omega) (show (w1233_i_12_19 : Int32).toInt ≤ (v1243 : Int32).toInt from by omega) (show (w1233_l_12_17 : Int64).toInt = (caL (cyP (fa 12 4) (fa 12 5) (fa 12 11) (fa 12 12) (a).toInt (d).toInt (b).toInt) (owY (fa 12 9) (fa 12 10) (iv 12 20).toInt (iv 12 21).toInt (iv 12 22).toInt) (fa 12 8) ((v1243 : Int32).toInt).toNat).toInt from (by
                    have := congrArg Int32.toInt (show v1236 = fa 12 9 ((x1233_4 : Int32).toInt).toNat from ev1236)
                    have := congrArg Int32.toInt (show v1238 = fa 12 4 ((x1233_4 : Int32).toInt).toNat from ev1238)
                    have := congrArg Int32.toInt (show v1241 = fa 12 5 ((x1233_4 : Int32).toInt).toNat from ev1241)
                    have hs9 : ((v1243 : Int32).toInt).toNat = ((x1233_4 : Int32).toInt).toNat + 1 := by omega
                    have hc : ¬ (((fa 12 4 ((x1233_4 : Int32).toInt).toNat).toInt = a.toInt ∧ (fa 12 5 ((x1233_4 : Int32).toInt).toNat).toInt = b.toInt ∧ (fa 12 11 ((x1233_4 : Int32).toInt).toNat).toInt ≤ d.toInt ∧ ((fa 12 12 ((x1233_4 : Int32).toInt).toNat).toInt < 0 ∨ d.toInt < (fa 12 12 ((x1233_4 : Int32).toInt).toNat).toInt)) ∧ ¬ ((fa 12 9 ((x1233_4 : Int32).toInt).toNat).toInt = (iv 12 20).toInt ∨ (fa 12 10 ((x1233_4 : Int32).toInt).toNat).toInt = (iv 12 21).toInt ∨ ((((x1233_4 : Int32).toInt).toNat : Nat) : Int) = (iv 12 22).toInt)) := by omega
                    rw [caL_n hs9 hc]; exact hq1234_5)) (show (w1233_l_12_18 : Int64).toInt = (caL (cyP (fa 12 4) (fa 12 5) (fa 12 11) (fa 12 12) (a).toInt (d).toInt (b).toInt) (owY (fa 12 9) (fa 12 10) (iv 12 20).toInt (iv 12 21).toInt (iv 12 22).toInt) (fa 12 7) ((v1243 : Int32).toInt).toNat).toInt from (by
                    have := congrArg Int32.toInt (show v1236 = fa 12 9 ((x1233_4 : Int32).toInt).toNat from ev1236)
                    have := congrArg Int32.toInt (show v1238 = fa 12 4 ((x1233_4 : Int32).toInt).toNat from ev1238)
                    have := congrArg Int32.toInt (show v1241 = fa 12 5 ((x1233_4 : Int32).toInt).toNat from ev1241)
                    have hs9 : ((v1243 : Int32).toInt).toNat = ((x1233_4 : Int32).toInt).toNat + 1 := by omega
                    have hc : ¬ (((fa 12 4 ((x1233_4 : Int32).toInt).toNat).toInt = a.toInt ∧ (fa 12 5 ((x1233_4 : Int32).toInt).toNat).toInt = b.toInt ∧ (fa 12 11 ((x1233_4 : Int32).toInt).toNat).toInt ≤ d.toInt ∧ ((fa 12 12 ((x1233_4 : Int32).toInt).toNat).toInt < 0 ∨ d.toInt < (fa 12 12 ((x1233_4 : Int32).toInt).toNat).toInt)) ∧ ¬ ((fa 12 9 ((x1233_4 : Int32).toInt).toNat).toInt = (iv 12 20).toInt ∨ (fa 12 10 ((x1233_4 : Int32).toInt).toNat).toInt = (iv 12 21).toInt ∨ ((((x1233_4 : Int32).toInt).toNat : Nat) : Int) = (iv 12 22).toInt)) := by omega
                    rw [caL_n hs9 hc]; exact hq1234_6)) (show (w1233_i_12_19 : Int32).toInt = (caC (cyP (fa 12 4) (fa 12 5) (fa 12 11) (fa 12 12) (a).toInt (d).toInt (b).toInt) (owY (fa 12 9) (fa 12 10) (iv 12 20).toInt (iv 12 21).toInt (iv 12 22).toInt) ((v1243 : Int32).toInt).toNat).toInt from (by
                    have := congrArg Int32.toInt (show v1236 = fa 12 9 ((x1233_4 : Int32).toInt).toNat from ev1236)
                    have := congrArg Int32.toInt (show v1238 = fa 12 4 ((x1233_4 : Int32).toInt).toNat from ev1238)
                    have := congrArg Int32.toInt (show v1241 = fa 12 5 ((x1233_4 : Int32).toInt).toNat from ev1241)
                    have hs9 : ((v1243 : Int32).toInt).toNat = ((x1233_4 : Int32).toInt).toNat + 1 := by omega
                    have hc : ¬ (((fa 12 4 ((x1233_4 : Int32).toInt).toNat).toInt = a.toInt ∧ (fa 12 5 ((x1233_4 : Int32).toInt).toNat).toInt = b.toInt ∧ (fa 12 11 ((x1233_4 : Int32).toInt).toNat).toInt ≤ d.toInt ∧ ((fa 12 12 ((x1233_4 : Int32).toInt).toNat).toInt < 0 ∨ d.toInt < (fa 12 12 ((x1233_4 : Int32).toInt).toNat).toInt)) ∧ ¬ ((fa 12 9 ((x1233_4 : Int32).toInt).toNat).toInt = (iv 12 20).toInt ∨ (fa 12 10 ((x1233_4 : Int32).toInt).toNat).toInt = (iv 12 21).toInt ∨ ((((x1233_4 : Int32).toInt).toNat : Nat) : Int) = (iv 12 22).toInt)) := by omega
                    rw [caC_n hs9 hc]; exact hq1234_7)) (show (v1243 : Int32).toInt ≤ ((iv 12 3) : Int32).toInt from by omega) (by omega) _ _ ls hP hD hS (lv_sub hl [0, 2, 3, 4, 5] rfl)
            · have fc1242 := z_eq (rfl : (v1241).toInt = _) (rfl : (b).toInt = _) c1242
              refine lv_aload_n hx hb dX12_sumUp_93 rfl (lv_at hl 2 rfl) ?_
              refine lv_iload hx hb dX12_sumUp_94 (lv_at hl 1 rfl) ?_
              refine lv_iload_n hx hb dX12_sumUp_96 rfl (lv_at hl 5 rfl) ?_
              refine vp_callSi (W.runV (As := [.int x1233_4, .int d]) (rest := []) ⟨hx, hb, hml, hown, ht⟩ (c_X12_isThere_x l dC dI h g ca (u2 iv 12 19 w1233_i_12_19) (u2 (u2 lv 12 17 w1233_l_12_17) 12 18 w1233_l_12_18) fa la (IX_i (c := 12) (k := 19) hI (full_i _)) x1233_4 d ⟨by omega, by omega⟩) (kV 2 ht m_1438 m_1440 m_46 m_89 m_1441 rfl rfl hd_X12_isThere_v ⟨Nat.le_of_ble_eq_true rfl, Nat.le_of_ble_eq_true rfl⟩) (vR hP hK (rM_12 hK hP)) rfl rfl hl.1 rfl (lv_room (Nat.le_of_ble_eq_true rfl)) dX12_sumUp_97 ⟨Nat.le_of_ble_eq_true rfl, Nat.le_of_ble_eq_true rfl⟩) (fun r1244 hr1244 => ?_)
              obtain ⟨hr1244, xr1244_0⟩ := hr1244
              have xr1244_0 : (((r1244 : Int32).toInt = 1 ∧ ((fa 12 11) (x1233_4 : Int32).toNatClampNeg).toInt ≤ (d : Int32).toInt ∧ (((fa 12 12) (x1233_4 : Int32).toNatClampNeg).toInt < 0 ∨ (d : Int32).toInt < ((fa 12 12) (x1233_4 : Int32).toNatClampNeg).toInt)) ∨ ((r1244 : Int32).toInt = 0 ∧ ¬ (((fa 12 11) (x1233_4 : Int32).toNatClampNeg).toInt ≤ (d : Int32).toInt ∧ (((fa 12 12) (x1233_4 : Int32).toNatClampNeg).toInt < 0 ∨ (d : Int32).toInt < ((fa 12 12) (x1233_4 : Int32).toNatClampNeg).toInt)))) := xr1244_0
              refine lv_if_eq (tgt := 152) hx hb dX12_sumUp_100 (by decide) (fun c1245 => ?_) (fun c1245 => ?_)
              · have fc1245 := z_eq (rfl : (r1244).toInt = _) (by decide : (0 : Int32).toInt = 0) c1245
                obtain ⟨v1246, ev1246⟩ : ∃ y : Int32, y = x1233_4 + 1 := ⟨_, rfl⟩
                have tv1246 := z_add ev1246 rfl (by decide : (1 : Int32).toInt = 1) (by omega) (by omega)
                refine lv_iinc (v := v1246) (lv' := [(4, .int v1246), (5, .int 1), (0, .ref h), (1, .int a), (2, .int b), (3, .int d)]) hx hb dX12_sumUp_152 hl (k := 1) rfl (by rw [ev1246]; rfl) (by decide) rfl (fun ls hl => ?_)
                refine lv_goto (tgt := 18) hx hb dX12_sumUp_155 (by decide) ?_
                exact ih1234 v1246 w1233_i_12_19 w1233_l_12_17 w1233_l_12_18 ⟨by omega, by omega⟩ (show 0 ≤ (w1233_l_12_18 : Int64).toInt from by omega) (show (w1233_l_12_18 : Int64).toInt ≤ 9999 * (v1246 : Int32).toInt from by omega) (show 100 * (w1233_i_12_19 : Int32).toInt ≤ (w1233_l_12_18 : Int64).toInt from by omega) (show 0 ≤ (w1233_i_12_19 : Int32).toInt from by omega) (show (w1233_i_12_19 : Int32).toInt ≤ (v1246 : Int32).toInt from by omega) (show (w1233_l_12_17 : Int64).toInt = (caL (cyP (fa 12 4) (fa 12 5) (fa 12 11) (fa 12 12) (a).toInt (d).toInt (b).toInt) (owY (fa 12 9) (fa 12 10) (iv 12 20).toInt (iv 12 21).toInt (iv 12 22).toInt) (fa 12 8) ((v1246 : Int32).toInt).toNat).toInt from (by
                      have := congrArg Int32.toInt (show v1236 = fa 12 9 ((x1233_4 : Int32).toInt).toNat from ev1236)
                      have := congrArg Int32.toInt (show v1238 = fa 12 4 ((x1233_4 : Int32).toInt).toNat from ev1238)
                      have := congrArg Int32.toInt (show v1241 = fa 12 5 ((x1233_4 : Int32).toInt).toNat from ev1241)
                      have y9 : ((r1244 : Int32).toInt = 1 ∧ (fa 12 11 ((x1233_4 : Int32).toInt).toNat).toInt ≤ (d : Int32).toInt ∧ ((fa 12 12 ((x1233_4 : Int32).toInt).toNat).toInt < 0 ∨ (d : Int32).toInt < (fa 12 12 ((x1233_4 : Int32).toInt).toNat).toInt)) ∨ ((r1244 : Int32).toInt = 0 ∧ ¬ ((fa 12 11 ((x1233_4 : Int32).toInt).toNat).toInt ≤ (d : Int32).toInt ∧ ((fa 12 12 ((x1233_4 : Int32).toInt).toNat).toInt < 0 ∨ (d : Int32).toInt < (fa 12 12 ((x1233_4 : Int32).toInt).toNat).toInt))) := xr1244_0
                      have hs9 : ((v1246 : Int32).toInt).toNat = ((x1233_4 : Int32).toInt).toNat + 1 := by omega
                      have hc : ¬ (((fa 12 4 ((x1233_4 : Int32).toInt).toNat).toInt = a.toInt ∧ (fa 12 5 ((x1233_4 : Int32).toInt).toNat).toInt = b.toInt ∧ (fa 12 11 ((x1233_4 : Int32).toInt).toNat).toInt ≤ d.toInt ∧ ((fa 12 12 ((x1233_4 : Int32).toInt).toNat).toInt < 0 ∨ d.toInt < (fa 12 12 ((x1233_4 : Int32).toInt).toNat).toInt)) ∧ ¬ ((fa 12 9 ((x1233_4 : Int32).toInt).toNat).toInt = (iv 12 20).toInt ∨ (fa 12 10 ((x1233_4 : Int32).toInt).toNat).toInt = (iv 12 21).toInt ∨ ((((x1233_4 : Int32).toInt).toNat : Nat) : Int) = (iv 12 22).toInt)) := by omega
                      rw [caL_n hs9 hc]; exact hq1234_5)) (show (w1233_l_12_18 : Int64).toInt = (caL (cyP (fa 12 4) (fa 12 5) (fa 12 11) (fa 12 12) (a).toInt (d).toInt (b).toInt) (owY (fa 12 9) (fa 12 10) (iv 12 20).toInt (iv 12 21).toInt (iv 12 22).toInt) (fa 12 7) ((v1246 : Int32).toInt).toNat).toInt from (by
                      have := congrArg Int32.toInt (show v1236 = fa 12 9 ((x1233_4 : Int32).toInt).toNat from ev1236)
                      have := congrArg Int32.toInt (show v1238 = fa 12 4 ((x1233_4 : Int32).toInt).toNat from ev1238)
                      have := congrArg Int32.toInt (show v1241 = fa 12 5 ((x1233_4 : Int32).toInt).toNat from ev1241)
                      have y9 : ((r1244 : Int32).toInt = 1 ∧ (fa 12 11 ((x1233_4 : Int32).toInt).toNat).toInt ≤ (d : Int32).toInt ∧ ((fa 12 12 ((x1233_4 : Int32).toInt).toNat).toInt < 0 ∨ (d : Int32).toInt < (fa 12 12 ((x1233_4 : Int32).toInt).toNat).toInt)) ∨ ((r1244 : Int32).toInt = 0 ∧ ¬ ((fa 12 11 ((x1233_4 : Int32).toInt).toNat).toInt ≤ (d : Int32).toInt ∧ ((fa 12 12 ((x1233_4 : Int32).toInt).toNat).toInt < 0 ∨ (d : Int32).toInt < (fa 12 12 ((x1233_4 : Int32).toInt).toNat).toInt))) := xr1244_0
                      have hs9 : ((v1246 : Int32).toInt).toNat = ((x1233_4 : Int32).toInt).toNat + 1 := by omega
                      have hc : ¬ (((fa 12 4 ((x1233_4 : Int32).toInt).toNat).toInt = a.toInt ∧ (fa 12 5 ((x1233_4 : Int32).toInt).toNat).toInt = b.toInt ∧ (fa 12 11 ((x1233_4 : Int32).toInt).toNat).toInt ≤ d.toInt ∧ ((fa 12 12 ((x1233_4 : Int32).toInt).toNat).toInt < 0 ∨ d.toInt < (fa 12 12 ((x1233_4 : Int32).toInt).toNat).toInt)) ∧ ¬ ((fa 12 9 ((x1233_4 : Int32).toInt).toNat).toInt = (iv 12 20).toInt ∨ (fa 12 10 ((x1233_4 : Int32).toInt).toNat).toInt = (iv 12 21).toInt ∨ ((((x1233_4 : Int32).toInt).toNat : Nat) : Int) = (iv 12 22).toInt)) := by omega
                      rw [caL_n hs9 hc]; exact hq1234_6)) (show (w1233_i_12_19 : Int32).toInt = (caC (cyP (fa 12 4) (fa 12 5) (fa 12 11) (fa 12 12) (a).toInt (d).toInt (b).toInt) (owY (fa 12 9) (fa 12 10) (iv 12 20).toInt (iv 12 21).toInt (iv 12 22).toInt) ((v1246 : Int32).toInt).toNat).toInt from (by
                      have := congrArg Int32.toInt (show v1236 = fa 12 9 ((x1233_4 : Int32).toInt).toNat from ev1236)
                      have := congrArg Int32.toInt (show v1238 = fa 12 4 ((x1233_4 : Int32).toInt).toNat from ev1238)
                      have := congrArg Int32.toInt (show v1241 = fa 12 5 ((x1233_4 : Int32).toInt).toNat from ev1241)
                      have y9 : ((r1244 : Int32).toInt = 1 ∧ (fa 12 11 ((x1233_4 : Int32).toInt).toNat).toInt ≤ (d : Int32).toInt ∧ ((fa 12 12 ((x1233_4 : Int32).toInt).toNat).toInt < 0 ∨ (d : Int32).toInt < (fa 12 12 ((x1233_4 : Int32).toInt).toNat).toInt)) ∨ ((r1244 : Int32).toInt = 0 ∧ ¬ ((fa 12 11 ((x1233_4 : Int32).toInt).toNat).toInt ≤ (d : Int32).toInt ∧ ((fa 12 12 ((x1233_4 : Int32).toInt).toNat).toInt < 0 ∨ (d : Int32).toInt < (fa 12 12 ((x1233_4 : Int32).toInt).toNat).toInt))) := xr1244_0
                      have hs9 : ((v1246 : Int32).toInt).toNat = ((x1233_4 : Int32).toInt).toNat + 1 := by omega
                      have hc : ¬ (((fa 12 4 ((x1233_4 : Int32).toInt).toNat).toInt = a.toInt ∧ (fa 12 5 ((x1233_4 : Int32).toInt).toNat).toInt = b.toInt ∧ (fa 12 11 ((x1233_4 : Int32).toInt).toNat).toInt ≤ d.toInt ∧ ((fa 12 12 ((x1233_4 : Int32).toInt).toNat).toInt < 0 ∨ d.toInt < (fa 12 12 ((x1233_4 : Int32).toInt).toNat).toInt)) ∧ ¬ ((fa 12 9 ((x1233_4 : Int32).toInt).toNat).toInt = (iv 12 20).toInt ∨ (fa 12 10 ((x1233_4 : Int32).toInt).toNat).toInt = (iv 12 21).toInt ∨ ((((x1233_4 : Int32).toInt).toNat : Nat) : Int) = (iv 12 22).toInt)) := by omega
                      rw [caC_n hs9 hc]; exact hq1234_7)) (show (v1246 : Int32).toInt ≤ ((iv 12 3) : Int32).toInt from by omega) (by omega) _ _ ls hP hD hS (lv_sub hl [0, 2, 3, 4, 5] rfl)
              · have fc1245 := z_ne (rfl : (r1244).toInt = _) (by decide : (0 : Int32).toInt = 0) c1245
                refine lv_iload hx hb dX12_sumUp_103 (lv_at hl 0 rfl) ?_
                refine lv_if_ne (tgt := 152) hx hb dX12_sumUp_105 (by decide) (fun c1247 => ?_) (fun c1247 => ?_)
                · skip
                  obtain ⟨v1248, ev1248⟩ : ∃ y : Int32, y = x1233_4 + 1 := ⟨_, rfl⟩
                  have tv1248 := z_add ev1248 rfl (by decide : (1 : Int32).toInt = 1) (by omega) (by omega)
                  refine lv_iinc (v := v1248) (lv' := [(4, .int v1248), (5, .int 1), (0, .ref h), (1, .int a), (2, .int b), (3, .int d)]) hx hb dX12_sumUp_152 hl (k := 1) rfl (by rw [ev1248]; rfl) (by decide) rfl (fun ls hl => ?_)
                  refine lv_goto (tgt := 18) hx hb dX12_sumUp_155 (by decide) ?_
                  exact ih1234 v1248 w1233_i_12_19 w1233_l_12_17 w1233_l_12_18 ⟨by omega, by omega⟩ (show 0 ≤ (w1233_l_12_18 : Int64).toInt from by omega) (show (w1233_l_12_18 : Int64).toInt ≤ 9999 * (v1248 : Int32).toInt from by omega) (show 100 * (w1233_i_12_19 : Int32).toInt ≤ (w1233_l_12_18 : Int64).toInt from by omega) (show 0 ≤ (w1233_i_12_19 : Int32).toInt from by omega) (show (w1233_i_12_19 : Int32).toInt ≤ (v1248 : Int32).toInt from by omega) (show (w1233_l_12_17 : Int64).toInt = (caL (cyP (fa 12 4) (fa 12 5) (fa 12 11) (fa 12 12) (a).toInt (d).toInt (b).toInt) (owY (fa 12 9) (fa 12 10) (iv 12 20).toInt (iv 12 21).toInt (iv 12 22).toInt) (fa 12 8) ((v1248 : Int32).toInt).toNat).toInt from (by
                        have := congrArg Int32.toInt (show v1236 = fa 12 9 ((x1233_4 : Int32).toInt).toNat from ev1236)
                        have := congrArg Int32.toInt (show v1238 = fa 12 4 ((x1233_4 : Int32).toInt).toNat from ev1238)
                        have := congrArg Int32.toInt (show v1241 = fa 12 5 ((x1233_4 : Int32).toInt).toNat from ev1241)
                        have y9 : ((r1244 : Int32).toInt = 1 ∧ (fa 12 11 ((x1233_4 : Int32).toInt).toNat).toInt ≤ (d : Int32).toInt ∧ ((fa 12 12 ((x1233_4 : Int32).toInt).toNat).toInt < 0 ∨ (d : Int32).toInt < (fa 12 12 ((x1233_4 : Int32).toInt).toNat).toInt)) ∨ ((r1244 : Int32).toInt = 0 ∧ ¬ ((fa 12 11 ((x1233_4 : Int32).toInt).toNat).toInt ≤ (d : Int32).toInt ∧ ((fa 12 12 ((x1233_4 : Int32).toInt).toNat).toInt < 0 ∨ (d : Int32).toInt < (fa 12 12 ((x1233_4 : Int32).toInt).toNat).toInt))) := xr1244_0
                        have hs9 : ((v1248 : Int32).toInt).toNat = ((x1233_4 : Int32).toInt).toNat + 1 := by omega
                        have hc : ¬ (((fa 12 4 ((x1233_4 : Int32).toInt).toNat).toInt = a.toInt ∧ (fa 12 5 ((x1233_4 : Int32).toInt).toNat).toInt = b.toInt ∧ (fa 12 11 ((x1233_4 : Int32).toInt).toNat).toInt ≤ d.toInt ∧ ((fa 12 12 ((x1233_4 : Int32).toInt).toNat).toInt < 0 ∨ d.toInt < (fa 12 12 ((x1233_4 : Int32).toInt).toNat).toInt)) ∧ ¬ ((fa 12 9 ((x1233_4 : Int32).toInt).toNat).toInt = (iv 12 20).toInt ∨ (fa 12 10 ((x1233_4 : Int32).toInt).toNat).toInt = (iv 12 21).toInt ∨ ((((x1233_4 : Int32).toInt).toNat : Nat) : Int) = (iv 12 22).toInt)) := by omega
                        rw [caL_n hs9 hc]; exact hq1234_5)) (show (w1233_l_12_18 : Int64).toInt = (caL (cyP (fa 12 4) (fa 12 5) (fa 12 11) (fa 12 12) (a).toInt (d).toInt (b).toInt) (owY (fa 12 9) (fa 12 10) (iv 12 20).toInt (iv 12 21).toInt (iv 12 22).toInt) (fa 12 7) ((v1248 : Int32).toInt).toNat).toInt from (by
                        have := congrArg Int32.toInt (show v1236 = fa 12 9 ((x1233_4 : Int32).toInt).toNat from ev1236)
                        have := congrArg Int32.toInt (show v1238 = fa 12 4 ((x1233_4 : Int32).toInt).toNat from ev1238)
                        have := congrArg Int32.toInt (show v1241 = fa 12 5 ((x1233_4 : Int32).toInt).toNat from ev1241)
                        have y9 : ((r1244 : Int32).toInt = 1 ∧ (fa 12 11 ((x1233_4 : Int32).toInt).toNat).toInt ≤ (d : Int32).toInt ∧ ((fa 12 12 ((x1233_4 : Int32).toInt).toNat).toInt < 0 ∨ (d : Int32).toInt < (fa 12 12 ((x1233_4 : Int32).toInt).toNat).toInt)) ∨ ((r1244 : Int32).toInt = 0 ∧ ¬ ((fa 12 11 ((x1233_4 : Int32).toInt).toNat).toInt ≤ (d : Int32).toInt ∧ ((fa 12 12 ((x1233_4 : Int32).toInt).toNat).toInt < 0 ∨ (d : Int32).toInt < (fa 12 12 ((x1233_4 : Int32).toInt).toNat).toInt))) := xr1244_0
                        have hs9 : ((v1248 : Int32).toInt).toNat = ((x1233_4 : Int32).toInt).toNat + 1 := by omega
                        have hc : ¬ (((fa 12 4 ((x1233_4 : Int32).toInt).toNat).toInt = a.toInt ∧ (fa 12 5 ((x1233_4 : Int32).toInt).toNat).toInt = b.toInt ∧ (fa 12 11 ((x1233_4 : Int32).toInt).toNat).toInt ≤ d.toInt ∧ ((fa 12 12 ((x1233_4 : Int32).toInt).toNat).toInt < 0 ∨ d.toInt < (fa 12 12 ((x1233_4 : Int32).toInt).toNat).toInt)) ∧ ¬ ((fa 12 9 ((x1233_4 : Int32).toInt).toNat).toInt = (iv 12 20).toInt ∨ (fa 12 10 ((x1233_4 : Int32).toInt).toNat).toInt = (iv 12 21).toInt ∨ ((((x1233_4 : Int32).toInt).toNat : Nat) : Int) = (iv 12 22).toInt)) := by omega
                        rw [caL_n hs9 hc]; exact hq1234_6)) (show (w1233_i_12_19 : Int32).toInt = (caC (cyP (fa 12 4) (fa 12 5) (fa 12 11) (fa 12 12) (a).toInt (d).toInt (b).toInt) (owY (fa 12 9) (fa 12 10) (iv 12 20).toInt (iv 12 21).toInt (iv 12 22).toInt) ((v1248 : Int32).toInt).toNat).toInt from (by
                        have := congrArg Int32.toInt (show v1236 = fa 12 9 ((x1233_4 : Int32).toInt).toNat from ev1236)
                        have := congrArg Int32.toInt (show v1238 = fa 12 4 ((x1233_4 : Int32).toInt).toNat from ev1238)
                        have := congrArg Int32.toInt (show v1241 = fa 12 5 ((x1233_4 : Int32).toInt).toNat from ev1241)
                        have y9 : ((r1244 : Int32).toInt = 1 ∧ (fa 12 11 ((x1233_4 : Int32).toInt).toNat).toInt ≤ (d : Int32).toInt ∧ ((fa 12 12 ((x1233_4 : Int32).toInt).toNat).toInt < 0 ∨ (d : Int32).toInt < (fa 12 12 ((x1233_4 : Int32).toInt).toNat).toInt)) ∨ ((r1244 : Int32).toInt = 0 ∧ ¬ ((fa 12 11 ((x1233_4 : Int32).toInt).toNat).toInt ≤ (d : Int32).toInt ∧ ((fa 12 12 ((x1233_4 : Int32).toInt).toNat).toInt < 0 ∨ (d : Int32).toInt < (fa 12 12 ((x1233_4 : Int32).toInt).toNat).toInt))) := xr1244_0
                        have hs9 : ((v1248 : Int32).toInt).toNat = ((x1233_4 : Int32).toInt).toNat + 1 := by omega
                        have hc : ¬ (((fa 12 4 ((x1233_4 : Int32).toInt).toNat).toInt = a.toInt ∧ (fa 12 5 ((x1233_4 : Int32).toInt).toNat).toInt = b.toInt ∧ (fa 12 11 ((x1233_4 : Int32).toInt).toNat).toInt ≤ d.toInt ∧ ((fa 12 12 ((x1233_4 : Int32).toInt).toNat).toInt < 0 ∨ d.toInt < (fa 12 12 ((x1233_4 : Int32).toInt).toNat).toInt)) ∧ ¬ ((fa 12 9 ((x1233_4 : Int32).toInt).toNat).toInt = (iv 12 20).toInt ∨ (fa 12 10 ((x1233_4 : Int32).toInt).toNat).toInt = (iv 12 21).toInt ∨ ((((x1233_4 : Int32).toInt).toNat : Nat) : Int) = (iv 12 22).toInt)) := by omega
                        rw [caC_n hs9 hc]; exact hq1234_7)) (show (v1248 : Int32).toInt ≤ ((iv 12 3) : Int32).toInt from by omega) (by omega) _ _ ls hP hD hS (lv_sub hl [0, 2, 3, 4, 5] rfl)
                · exact absurd c1247 (by decide)
        · have fc1237 := z_ne (rfl : (v1236).toInt = _) (rfl : ((iv 12 20)).toInt = _) c1237
          refine lv_aload_n hx hb dX12_sumUp_41 rfl (lv_at hl 1 rfl) ?_
          refine gM_12_10 hx hb ht hown hK hP m_1149 dX12_sumUp_42 ?_
          refine lv_iload hx hb dX12_sumUp_45 (lv_at hl 0 rfl) ?_
          refine lM_12_10 hx hb hK hP (f := (fa 12 10)) rfl (vp_in_iff.mpr ⟨by omega, by omega⟩) dX12_sumUp_47 ?_
          refine lv_topi (fun v1249 ev1249 => ?_)
          have tv1249 : 0 ≤ v1249.toInt ∧ v1249.toInt ≤ 7 := by rw [ev1249]; exact hI.2 12 10 _
          refine lv_aload_n hx hb dX12_sumUp_48 rfl (lv_at hl 1 rfl) ?_
          refine gM_12_21 hx hb ht hown hK hP m_1160 (v := (iv 12 21)) rfl dX12_sumUp_49 ?_
          refine lv_icmp_eq (tgt := 64) hx hb dX12_sumUp_52 (by decide) (fun c1250 => ?_) (fun c1250 => ?_)
          · have fc1250 := z_eq (rfl : (v1249).toInt = _) (rfl : ((iv 12 21)).toInt = _) c1250
            refine lv_iconst (v := 1) hx hb dX12_sumUp_64 (by decide) ?_
            refine lv_goto (tgt := 69) hx hb dX12_sumUp_65 (by decide) ?_
            refine lv_istore (lv' := [(5, .int 1), (4, .int x1233_4), (0, .ref h), (1, .int a), (2, .int b), (3, .int d)]) hx hb dX12_sumUp_69 hl (by decide) rfl (fun ls hl => ?_)
            refine lv_aload_n hx hb dX12_sumUp_71 rfl (lv_at hl 2 rfl) ?_
            refine gM_12_4 hx hb ht hown hK hP m_1143 dX12_sumUp_72 ?_
            refine lv_iload hx hb dX12_sumUp_75 (lv_at hl 1 rfl) ?_
            refine lM_12_4 hx hb hK hP (f := (fa 12 4)) rfl (vp_in_iff.mpr ⟨by omega, by omega⟩) dX12_sumUp_77 ?_
            refine lv_topi (fun v1251 ev1251 => ?_)
            refine lv_iload_n hx hb dX12_sumUp_78 rfl (lv_at hl 3 rfl) ?_
            refine lv_icmp_ne (tgt := 152) hx hb dX12_sumUp_79 (by decide) (fun c1252 => ?_) (fun c1252 => ?_)
            · have fc1252 := z_ne (rfl : (v1251).toInt = _) (rfl : (a).toInt = _) c1252
              obtain ⟨v1253, ev1253⟩ : ∃ y : Int32, y = x1233_4 + 1 := ⟨_, rfl⟩
              have tv1253 := z_add ev1253 rfl (by decide : (1 : Int32).toInt = 1) (by omega) (by omega)
              refine lv_iinc (v := v1253) (lv' := [(4, .int v1253), (5, .int 1), (0, .ref h), (1, .int a), (2, .int b), (3, .int d)]) hx hb dX12_sumUp_152 hl (k := 1) rfl (by rw [ev1253]; rfl) (by decide) rfl (fun ls hl => ?_)
              refine lv_goto (tgt := 18) hx hb dX12_sumUp_155 (by decide) ?_
              exact ih1234 v1253 w1233_i_12_19 w1233_l_12_17 w1233_l_12_18 ⟨by omega, by omega⟩ (show 0 ≤ (w1233_l_12_18 : Int64).toInt from by omega) (show (w1233_l_12_18 : Int64).toInt ≤ 9999 * (v1253 : Int32).toInt from by omega) (show 100 * (w1233_i_12_19 : Int32).toInt ≤ (w1233_l_12_18 : Int64).toInt from by omega) (show 0 ≤ (w1233_i_12_19 : Int32).toInt from by omega) (show (w1233_i_12_19 : Int32).toInt ≤ (v1253 : Int32).toInt from by omega) (show (w1233_l_12_17 : Int64).toInt = (caL (cyP (fa 12 4) (fa 12 5) (fa 12 11) (fa 12 12) (a).toInt (d).toInt (b).toInt) (owY (fa 12 9) (fa 12 10) (iv 12 20).toInt (iv 12 21).toInt (iv 12 22).toInt) (fa 12 8) ((v1253 : Int32).toInt).toNat).toInt from (by
                    have := congrArg Int32.toInt (show v1236 = fa 12 9 ((x1233_4 : Int32).toInt).toNat from ev1236)
                    have := congrArg Int32.toInt (show v1249 = fa 12 10 ((x1233_4 : Int32).toInt).toNat from ev1249)
                    have := congrArg Int32.toInt (show v1251 = fa 12 4 ((x1233_4 : Int32).toInt).toNat from ev1251)
                    have hs9 : ((v1253 : Int32).toInt).toNat = ((x1233_4 : Int32).toInt).toNat + 1 := by omega
                    have hc : ¬ (((fa 12 4 ((x1233_4 : Int32).toInt).toNat).toInt = a.toInt ∧ (fa 12 5 ((x1233_4 : Int32).toInt).toNat).toInt = b.toInt ∧ (fa 12 11 ((x1233_4 : Int32).toInt).toNat).toInt ≤ d.toInt ∧ ((fa 12 12 ((x1233_4 : Int32).toInt).toNat).toInt < 0 ∨ d.toInt < (fa 12 12 ((x1233_4 : Int32).toInt).toNat).toInt)) ∧ ¬ ((fa 12 9 ((x1233_4 : Int32).toInt).toNat).toInt = (iv 12 20).toInt ∨ (fa 12 10 ((x1233_4 : Int32).toInt).toNat).toInt = (iv 12 21).toInt ∨ ((((x1233_4 : Int32).toInt).toNat : Nat) : Int) = (iv 12 22).toInt)) := by omega
                    rw [caL_n hs9 hc]; exact hq1234_5)) (show (w1233_l_12_18 : Int64).toInt = (caL (cyP (fa 12 4) (fa 12 5) (fa 12 11) (fa 12 12) (a).toInt (d).toInt (b).toInt) (owY (fa 12 9) (fa 12 10) (iv 12 20).toInt (iv 12 21).toInt (iv 12 22).toInt) (fa 12 7) ((v1253 : Int32).toInt).toNat).toInt from (by
                    have := congrArg Int32.toInt (show v1236 = fa 12 9 ((x1233_4 : Int32).toInt).toNat from ev1236)
                    have := congrArg Int32.toInt (show v1249 = fa 12 10 ((x1233_4 : Int32).toInt).toNat from ev1249)
                    have := congrArg Int32.toInt (show v1251 = fa 12 4 ((x1233_4 : Int32).toInt).toNat from ev1251)
                    have hs9 : ((v1253 : Int32).toInt).toNat = ((x1233_4 : Int32).toInt).toNat + 1 := by omega
                    have hc : ¬ (((fa 12 4 ((x1233_4 : Int32).toInt).toNat).toInt = a.toInt ∧ (fa 12 5 ((x1233_4 : Int32).toInt).toNat).toInt = b.toInt ∧ (fa 12 11 ((x1233_4 : Int32).toInt).toNat).toInt ≤ d.toInt ∧ ((fa 12 12 ((x1233_4 : Int32).toInt).toNat).toInt < 0 ∨ d.toInt < (fa 12 12 ((x1233_4 : Int32).toInt).toNat).toInt)) ∧ ¬ ((fa 12 9 ((x1233_4 : Int32).toInt).toNat).toInt = (iv 12 20).toInt ∨ (fa 12 10 ((x1233_4 : Int32).toInt).toNat).toInt = (iv 12 21).toInt ∨ ((((x1233_4 : Int32).toInt).toNat : Nat) : Int) = (iv 12 22).toInt)) := by omega
                    rw [caL_n hs9 hc]; exact hq1234_6)) (show (w1233_i_12_19 : Int32).toInt = (caC (cyP (fa 12 4) (fa 12 5) (fa 12 11) (fa 12 12) (a).toInt (d).toInt (b).toInt) (owY (fa 12 9) (fa 12 10) (iv 12 20).toInt (iv 12 21).toInt (iv 12 22).toInt) ((v1253 : Int32).toInt).toNat).toInt from (by
                    have := congrArg Int32.toInt (show v1236 = fa 12 9 ((x1233_4 : Int32).toInt).toNat from ev1236)
                    have := congrArg Int32.toInt (show v1249 = fa 12 10 ((x1233_4 : Int32).toInt).toNat from ev1249)
                    have := congrArg Int32.toInt (show v1251 = fa 12 4 ((x1233_4 : Int32).toInt).toNat from ev1251)
                    have hs9 : ((v1253 : Int32).toInt).toNat = ((x1233_4 : Int32).toInt).toNat + 1 := by omega
                    have hc : ¬ (((fa 12 4 ((x1233_4 : Int32).toInt).toNat).toInt = a.toInt ∧ (fa 12 5 ((x1233_4 : Int32).toInt).toNat).toInt = b.toInt ∧ (fa 12 11 ((x1233_4 : Int32).toInt).toNat).toInt ≤ d.toInt ∧ ((fa 12 12 ((x1233_4 : Int32).toInt).toNat).toInt < 0 ∨ d.toInt < (fa 12 12 ((x1233_4 : Int32).toInt).toNat).toInt)) ∧ ¬ ((fa 12 9 ((x1233_4 : Int32).toInt).toNat).toInt = (iv 12 20).toInt ∨ (fa 12 10 ((x1233_4 : Int32).toInt).toNat).toInt = (iv 12 21).toInt ∨ ((((x1233_4 : Int32).toInt).toNat : Nat) : Int) = (iv 12 22).toInt)) := by omega
                    rw [caC_n hs9 hc]; exact hq1234_7)) (show (v1253 : Int32).toInt ≤ ((iv 12 3) : Int32).toInt from by omega) (by omega) _ _ ls hP hD hS (lv_sub hl [0, 2, 3, 4, 5] rfl)
            · have fc1252 := z_eq (rfl : (v1251).toInt = _) (rfl : (a).toInt = _) c1252
              refine lv_aload_n hx hb dX12_sumUp_82 rfl (lv_at hl 2 rfl) ?_
              refine gM_12_5 hx hb ht hown hK hP m_1144 dX12_sumUp_83 ?_
              refine lv_iload hx hb dX12_sumUp_86 (lv_at hl 1 rfl) ?_
              refine lM_12_5 hx hb hK hP (f := (fa 12 5)) rfl (vp_in_iff.mpr ⟨by omega, by omega⟩) dX12_sumUp_88 ?_
              refine lv_topi (fun v1254 ev1254 => ?_)
              refine lv_iload_n hx hb dX12_sumUp_89 rfl (lv_at hl 4 rfl) ?_
              refine lv_icmp_ne (tgt := 152) hx hb dX12_sumUp_90 (by decide) (fun c1255 => ?_) (fun c1255 => ?_)
              · have fc1255 := z_ne (rfl : (v1254).toInt = _) (rfl : (b).toInt = _) c1255
                obtain ⟨v1256, ev1256⟩ : ∃ y : Int32, y = x1233_4 + 1 := ⟨_, rfl⟩
                have tv1256 := z_add ev1256 rfl (by decide : (1 : Int32).toInt = 1) (by omega) (by omega)
                refine lv_iinc (v := v1256) (lv' := [(4, .int v1256), (5, .int 1), (0, .ref h), (1, .int a), (2, .int b), (3, .int d)]) hx hb dX12_sumUp_152 hl (k := 1) rfl (by rw [ev1256]; rfl) (by decide) rfl (fun ls hl => ?_)
                refine lv_goto (tgt := 18) hx hb dX12_sumUp_155 (by decide) ?_
                exact ih1234 v1256 w1233_i_12_19 w1233_l_12_17 w1233_l_12_18 ⟨by omega, by omega⟩ (show 0 ≤ (w1233_l_12_18 : Int64).toInt from by omega) (show (w1233_l_12_18 : Int64).toInt ≤ 9999 * (v1256 : Int32).toInt from by omega) (show 100 * (w1233_i_12_19 : Int32).toInt ≤ (w1233_l_12_18 : Int64).toInt from by omega) (show 0 ≤ (w1233_i_12_19 : Int32).toInt from by omega) (show (w1233_i_12_19 : Int32).toInt ≤ (v1256 : Int32).toInt from by omega) (show (w1233_l_12_17 : Int64).toInt = (caL (cyP (fa 12 4) (fa 12 5) (fa 12 11) (fa 12 12) (a).toInt (d).toInt (b).toInt) (owY (fa 12 9) (fa 12 10) (iv 12 20).toInt (iv 12 21).toInt (iv 12 22).toInt) (fa 12 8) ((v1256 : Int32).toInt).toNat).toInt from (by
                      have := congrArg Int32.toInt (show v1236 = fa 12 9 ((x1233_4 : Int32).toInt).toNat from ev1236)
                      have := congrArg Int32.toInt (show v1249 = fa 12 10 ((x1233_4 : Int32).toInt).toNat from ev1249)
                      have := congrArg Int32.toInt (show v1251 = fa 12 4 ((x1233_4 : Int32).toInt).toNat from ev1251)
                      have := congrArg Int32.toInt (show v1254 = fa 12 5 ((x1233_4 : Int32).toInt).toNat from ev1254)
                      have hs9 : ((v1256 : Int32).toInt).toNat = ((x1233_4 : Int32).toInt).toNat + 1 := by omega
                      have hc : ¬ (((fa 12 4 ((x1233_4 : Int32).toInt).toNat).toInt = a.toInt ∧ (fa 12 5 ((x1233_4 : Int32).toInt).toNat).toInt = b.toInt ∧ (fa 12 11 ((x1233_4 : Int32).toInt).toNat).toInt ≤ d.toInt ∧ ((fa 12 12 ((x1233_4 : Int32).toInt).toNat).toInt < 0 ∨ d.toInt < (fa 12 12 ((x1233_4 : Int32).toInt).toNat).toInt)) ∧ ¬ ((fa 12 9 ((x1233_4 : Int32).toInt).toNat).toInt = (iv 12 20).toInt ∨ (fa 12 10 ((x1233_4 : Int32).toInt).toNat).toInt = (iv 12 21).toInt ∨ ((((x1233_4 : Int32).toInt).toNat : Nat) : Int) = (iv 12 22).toInt)) := by omega
                      rw [caL_n hs9 hc]; exact hq1234_5)) (show (w1233_l_12_18 : Int64).toInt = (caL (cyP (fa 12 4) (fa 12 5) (fa 12 11) (fa 12 12) (a).toInt (d).toInt (b).toInt) (owY (fa 12 9) (fa 12 10) (iv 12 20).toInt (iv 12 21).toInt (iv 12 22).toInt) (fa 12 7) ((v1256 : Int32).toInt).toNat).toInt from (by
                      have := congrArg Int32.toInt (show v1236 = fa 12 9 ((x1233_4 : Int32).toInt).toNat from ev1236)
                      have := congrArg Int32.toInt (show v1249 = fa 12 10 ((x1233_4 : Int32).toInt).toNat from ev1249)
                      have := congrArg Int32.toInt (show v1251 = fa 12 4 ((x1233_4 : Int32).toInt).toNat from ev1251)
                      have := congrArg Int32.toInt (show v1254 = fa 12 5 ((x1233_4 : Int32).toInt).toNat from ev1254)
                      have hs9 : ((v1256 : Int32).toInt).toNat = ((x1233_4 : Int32).toInt).toNat + 1 := by omega
                      have hc : ¬ (((fa 12 4 ((x1233_4 : Int32).toInt).toNat).toInt = a.toInt ∧ (fa 12 5 ((x1233_4 : Int32).toInt).toNat).toInt = b.toInt ∧ (fa 12 11 ((x1233_4 : Int32).toInt).toNat).toInt ≤ d.toInt ∧ ((fa 12 12 ((x1233_4 : Int32).toInt).toNat).toInt < 0 ∨ d.toInt < (fa 12 12 ((x1233_4 : Int32).toInt).toNat).toInt)) ∧ ¬ ((fa 12 9 ((x1233_4 : Int32).toInt).toNat).toInt = (iv 12 20).toInt ∨ (fa 12 10 ((x1233_4 : Int32).toInt).toNat).toInt = (iv 12 21).toInt ∨ ((((x1233_4 : Int32).toInt).toNat : Nat) : Int) = (iv 12 22).toInt)) := by omega
                      rw [caL_n hs9 hc]; exact hq1234_6)) (show (w1233_i_12_19 : Int32).toInt = (caC (cyP (fa 12 4) (fa 12 5) (fa 12 11) (fa 12 12) (a).toInt (d).toInt (b).toInt) (owY (fa 12 9) (fa 12 10) (iv 12 20).toInt (iv 12 21).toInt (iv 12 22).toInt) ((v1256 : Int32).toInt).toNat).toInt from (by
                      have := congrArg Int32.toInt (show v1236 = fa 12 9 ((x1233_4 : Int32).toInt).toNat from ev1236)
                      have := congrArg Int32.toInt (show v1249 = fa 12 10 ((x1233_4 : Int32).toInt).toNat from ev1249)
                      have := congrArg Int32.toInt (show v1251 = fa 12 4 ((x1233_4 : Int32).toInt).toNat from ev1251)
                      have := congrArg Int32.toInt (show v1254 = fa 12 5 ((x1233_4 : Int32).toInt).toNat from ev1254)
                      have hs9 : ((v1256 : Int32).toInt).toNat = ((x1233_4 : Int32).toInt).toNat + 1 := by omega
                      have hc : ¬ (((fa 12 4 ((x1233_4 : Int32).toInt).toNat).toInt = a.toInt ∧ (fa 12 5 ((x1233_4 : Int32).toInt).toNat).toInt = b.toInt ∧ (fa 12 11 ((x1233_4 : Int32).toInt).toNat).toInt ≤ d.toInt ∧ ((fa 12 12 ((x1233_4 : Int32).toInt).toNat).toInt < 0 ∨ d.toInt < (fa 12 12 ((x1233_4 : Int32).toInt).toNat).toInt)) ∧ ¬ ((fa 12 9 ((x1233_4 : Int32).toInt).toNat).toInt = (iv 12 20).toInt ∨ (fa 12 10 ((x1233_4 : Int32).toInt).toNat).toInt = (iv 12 21).toInt ∨ ((((x1233_4 : Int32).toInt).toNat : Nat) : Int) = (iv 12 22).toInt)) := by omega
                      rw [caC_n hs9 hc]; exact hq1234_7)) (show (v1256 : Int32).toInt ≤ ((iv 12 3) : Int32).toInt from by omega) (by omega) _ _ ls hP hD hS (lv_sub hl [0, 2, 3, 4, 5] rfl)
              · have fc1255 := z_eq (rfl : (v1254).toInt = _) (rfl : (b).toInt = _) c1255
                refine lv_aload_n hx hb dX12_sumUp_93 rfl (lv_at hl 2 rfl) ?_
                refine lv_iload hx hb dX12_sumUp_94 (lv_at hl 1 rfl) ?_
                refine lv_iload_n hx hb dX12_sumUp_96 rfl (lv_at hl 5 rfl) ?_
                refine vp_callSi (W.runV (As := [.int x1233_4, .int d]) (rest := []) ⟨hx, hb, hml, hown, ht⟩ (c_X12_isThere_x l dC dI h g ca (u2 iv 12 19 w1233_i_12_19) (u2 (u2 lv 12 17 w1233_l_12_17) 12 18 w1233_l_12_18) fa la (IX_i (c := 12) (k := 19) hI (full_i _)) x1233_4 d ⟨by omega, by omega⟩) (kV 2 ht m_1438 m_1440 m_46 m_89 m_1441 rfl rfl hd_X12_isThere_v ⟨Nat.le_of_ble_eq_true rfl, Nat.le_of_ble_eq_true rfl⟩) (vR hP hK (rM_12 hK hP)) rfl rfl hl.1 rfl (lv_room (Nat.le_of_ble_eq_true rfl)) dX12_sumUp_97 ⟨Nat.le_of_ble_eq_true rfl, Nat.le_of_ble_eq_true rfl⟩) (fun r1257 hr1257 => ?_)
                obtain ⟨hr1257, xr1257_0⟩ := hr1257
                have xr1257_0 : (((r1257 : Int32).toInt = 1 ∧ ((fa 12 11) (x1233_4 : Int32).toNatClampNeg).toInt ≤ (d : Int32).toInt ∧ (((fa 12 12) (x1233_4 : Int32).toNatClampNeg).toInt < 0 ∨ (d : Int32).toInt < ((fa 12 12) (x1233_4 : Int32).toNatClampNeg).toInt)) ∨ ((r1257 : Int32).toInt = 0 ∧ ¬ (((fa 12 11) (x1233_4 : Int32).toNatClampNeg).toInt ≤ (d : Int32).toInt ∧ (((fa 12 12) (x1233_4 : Int32).toNatClampNeg).toInt < 0 ∨ (d : Int32).toInt < ((fa 12 12) (x1233_4 : Int32).toNatClampNeg).toInt)))) := xr1257_0
                refine lv_if_eq (tgt := 152) hx hb dX12_sumUp_100 (by decide) (fun c1258 => ?_) (fun c1258 => ?_)
                · have fc1258 := z_eq (rfl : (r1257).toInt = _) (by decide : (0 : Int32).toInt = 0) c1258
                  obtain ⟨v1259, ev1259⟩ : ∃ y : Int32, y = x1233_4 + 1 := ⟨_, rfl⟩
                  have tv1259 := z_add ev1259 rfl (by decide : (1 : Int32).toInt = 1) (by omega) (by omega)
                  refine lv_iinc (v := v1259) (lv' := [(4, .int v1259), (5, .int 1), (0, .ref h), (1, .int a), (2, .int b), (3, .int d)]) hx hb dX12_sumUp_152 hl (k := 1) rfl (by rw [ev1259]; rfl) (by decide) rfl (fun ls hl => ?_)
                  refine lv_goto (tgt := 18) hx hb dX12_sumUp_155 (by decide) ?_
                  exact ih1234 v1259 w1233_i_12_19 w1233_l_12_17 w1233_l_12_18 ⟨by omega, by omega⟩ (show 0 ≤ (w1233_l_12_18 : Int64).toInt from by omega) (show (w1233_l_12_18 : Int64).toInt ≤ 9999 * (v1259 : Int32).toInt from by omega) (show 100 * (w1233_i_12_19 : Int32).toInt ≤ (w1233_l_12_18 : Int64).toInt from by omega) (show 0 ≤ (w1233_i_12_19 : Int32).toInt from by omega) (show (w1233_i_12_19 : Int32).toInt ≤ (v1259 : Int32).toInt from by omega) (show (w1233_l_12_17 : Int64).toInt = (caL (cyP (fa 12 4) (fa 12 5) (fa 12 11) (fa 12 12) (a).toInt (d).toInt (b).toInt) (owY (fa 12 9) (fa 12 10) (iv 12 20).toInt (iv 12 21).toInt (iv 12 22).toInt) (fa 12 8) ((v1259 : Int32).toInt).toNat).toInt from (by
                        have := congrArg Int32.toInt (show v1236 = fa 12 9 ((x1233_4 : Int32).toInt).toNat from ev1236)
                        have := congrArg Int32.toInt (show v1249 = fa 12 10 ((x1233_4 : Int32).toInt).toNat from ev1249)
                        have := congrArg Int32.toInt (show v1251 = fa 12 4 ((x1233_4 : Int32).toInt).toNat from ev1251)
                        have := congrArg Int32.toInt (show v1254 = fa 12 5 ((x1233_4 : Int32).toInt).toNat from ev1254)
                        have y9 : ((r1257 : Int32).toInt = 1 ∧ (fa 12 11 ((x1233_4 : Int32).toInt).toNat).toInt ≤ (d : Int32).toInt ∧ ((fa 12 12 ((x1233_4 : Int32).toInt).toNat).toInt < 0 ∨ (d : Int32).toInt < (fa 12 12 ((x1233_4 : Int32).toInt).toNat).toInt)) ∨ ((r1257 : Int32).toInt = 0 ∧ ¬ ((fa 12 11 ((x1233_4 : Int32).toInt).toNat).toInt ≤ (d : Int32).toInt ∧ ((fa 12 12 ((x1233_4 : Int32).toInt).toNat).toInt < 0 ∨ (d : Int32).toInt < (fa 12 12 ((x1233_4 : Int32).toInt).toNat).toInt))) := xr1257_0
                        have hs9 : ((v1259 : Int32).toInt).toNat = ((x1233_4 : Int32).toInt).toNat + 1 := by omega
                        have hc : ¬ (((fa 12 4 ((x1233_4 : Int32).toInt).toNat).toInt = a.toInt ∧ (fa 12 5 ((x1233_4 : Int32).toInt).toNat).toInt = b.toInt ∧ (fa 12 11 ((x1233_4 : Int32).toInt).toNat).toInt ≤ d.toInt ∧ ((fa 12 12 ((x1233_4 : Int32).toInt).toNat).toInt < 0 ∨ d.toInt < (fa 12 12 ((x1233_4 : Int32).toInt).toNat).toInt)) ∧ ¬ ((fa 12 9 ((x1233_4 : Int32).toInt).toNat).toInt = (iv 12 20).toInt ∨ (fa 12 10 ((x1233_4 : Int32).toInt).toNat).toInt = (iv 12 21).toInt ∨ ((((x1233_4 : Int32).toInt).toNat : Nat) : Int) = (iv 12 22).toInt)) := by omega
                        rw [caL_n hs9 hc]; exact hq1234_5)) (show (w1233_l_12_18 : Int64).toInt = (caL (cyP (fa 12 4) (fa 12 5) (fa 12 11) (fa 12 12) (a).toInt (d).toInt (b).toInt) (owY (fa 12 9) (fa 12 10) (iv 12 20).toInt (iv 12 21).toInt (iv 12 22).toInt) (fa 12 7) ((v1259 : Int32).toInt).toNat).toInt from (by
                        have := congrArg Int32.toInt (show v1236 = fa 12 9 ((x1233_4 : Int32).toInt).toNat from ev1236)
                        have := congrArg Int32.toInt (show v1249 = fa 12 10 ((x1233_4 : Int32).toInt).toNat from ev1249)
                        have := congrArg Int32.toInt (show v1251 = fa 12 4 ((x1233_4 : Int32).toInt).toNat from ev1251)
                        have := congrArg Int32.toInt (show v1254 = fa 12 5 ((x1233_4 : Int32).toInt).toNat from ev1254)
                        have y9 : ((r1257 : Int32).toInt = 1 ∧ (fa 12 11 ((x1233_4 : Int32).toInt).toNat).toInt ≤ (d : Int32).toInt ∧ ((fa 12 12 ((x1233_4 : Int32).toInt).toNat).toInt < 0 ∨ (d : Int32).toInt < (fa 12 12 ((x1233_4 : Int32).toInt).toNat).toInt)) ∨ ((r1257 : Int32).toInt = 0 ∧ ¬ ((fa 12 11 ((x1233_4 : Int32).toInt).toNat).toInt ≤ (d : Int32).toInt ∧ ((fa 12 12 ((x1233_4 : Int32).toInt).toNat).toInt < 0 ∨ (d : Int32).toInt < (fa 12 12 ((x1233_4 : Int32).toInt).toNat).toInt))) := xr1257_0
                        have hs9 : ((v1259 : Int32).toInt).toNat = ((x1233_4 : Int32).toInt).toNat + 1 := by omega
                        have hc : ¬ (((fa 12 4 ((x1233_4 : Int32).toInt).toNat).toInt = a.toInt ∧ (fa 12 5 ((x1233_4 : Int32).toInt).toNat).toInt = b.toInt ∧ (fa 12 11 ((x1233_4 : Int32).toInt).toNat).toInt ≤ d.toInt ∧ ((fa 12 12 ((x1233_4 : Int32).toInt).toNat).toInt < 0 ∨ d.toInt < (fa 12 12 ((x1233_4 : Int32).toInt).toNat).toInt)) ∧ ¬ ((fa 12 9 ((x1233_4 : Int32).toInt).toNat).toInt = (iv 12 20).toInt ∨ (fa 12 10 ((x1233_4 : Int32).toInt).toNat).toInt = (iv 12 21).toInt ∨ ((((x1233_4 : Int32).toInt).toNat : Nat) : Int) = (iv 12 22).toInt)) := by omega
                        rw [caL_n hs9 hc]; exact hq1234_6)) (show (w1233_i_12_19 : Int32).toInt = (caC (cyP (fa 12 4) (fa 12 5) (fa 12 11) (fa 12 12) (a).toInt (d).toInt (b).toInt) (owY (fa 12 9) (fa 12 10) (iv 12 20).toInt (iv 12 21).toInt (iv 12 22).toInt) ((v1259 : Int32).toInt).toNat).toInt from (by
                        have := congrArg Int32.toInt (show v1236 = fa 12 9 ((x1233_4 : Int32).toInt).toNat from ev1236)
                        have := congrArg Int32.toInt (show v1249 = fa 12 10 ((x1233_4 : Int32).toInt).toNat from ev1249)
                        have := congrArg Int32.toInt (show v1251 = fa 12 4 ((x1233_4 : Int32).toInt).toNat from ev1251)
                        have := congrArg Int32.toInt (show v1254 = fa 12 5 ((x1233_4 : Int32).toInt).toNat from ev1254)
                        have y9 : ((r1257 : Int32).toInt = 1 ∧ (fa 12 11 ((x1233_4 : Int32).toInt).toNat).toInt ≤ (d : Int32).toInt ∧ ((fa 12 12 ((x1233_4 : Int32).toInt).toNat).toInt < 0 ∨ (d : Int32).toInt < (fa 12 12 ((x1233_4 : Int32).toInt).toNat).toInt)) ∨ ((r1257 : Int32).toInt = 0 ∧ ¬ ((fa 12 11 ((x1233_4 : Int32).toInt).toNat).toInt ≤ (d : Int32).toInt ∧ ((fa 12 12 ((x1233_4 : Int32).toInt).toNat).toInt < 0 ∨ (d : Int32).toInt < (fa 12 12 ((x1233_4 : Int32).toInt).toNat).toInt))) := xr1257_0
                        have hs9 : ((v1259 : Int32).toInt).toNat = ((x1233_4 : Int32).toInt).toNat + 1 := by omega
                        have hc : ¬ (((fa 12 4 ((x1233_4 : Int32).toInt).toNat).toInt = a.toInt ∧ (fa 12 5 ((x1233_4 : Int32).toInt).toNat).toInt = b.toInt ∧ (fa 12 11 ((x1233_4 : Int32).toInt).toNat).toInt ≤ d.toInt ∧ ((fa 12 12 ((x1233_4 : Int32).toInt).toNat).toInt < 0 ∨ d.toInt < (fa 12 12 ((x1233_4 : Int32).toInt).toNat).toInt)) ∧ ¬ ((fa 12 9 ((x1233_4 : Int32).toInt).toNat).toInt = (iv 12 20).toInt ∨ (fa 12 10 ((x1233_4 : Int32).toInt).toNat).toInt = (iv 12 21).toInt ∨ ((((x1233_4 : Int32).toInt).toNat : Nat) : Int) = (iv 12 22).toInt)) := by omega
                        rw [caC_n hs9 hc]; exact hq1234_7)) (show (v1259 : Int32).toInt ≤ ((iv 12 3) : Int32).toInt from by omega) (by omega) _ _ ls hP hD hS (lv_sub hl [0, 2, 3, 4, 5] rfl)
                · have fc1258 := z_ne (rfl : (r1257).toInt = _) (by decide : (0 : Int32).toInt = 0) c1258
                  refine lv_iload hx hb dX12_sumUp_103 (lv_at hl 0 rfl) ?_
                  refine lv_if_ne (tgt := 152) hx hb dX12_sumUp_105 (by decide) (fun c1260 => ?_) (fun c1260 => ?_)
                  · skip
                    obtain ⟨v1261, ev1261⟩ : ∃ y : Int32, y = x1233_4 + 1 := ⟨_, rfl⟩
                    have tv1261 := z_add ev1261 rfl (by decide : (1 : Int32).toInt = 1) (by omega) (by omega)
                    refine lv_iinc (v := v1261) (lv' := [(4, .int v1261), (5, .int 1), (0, .ref h), (1, .int a), (2, .int b), (3, .int d)]) hx hb dX12_sumUp_152 hl (k := 1) rfl (by rw [ev1261]; rfl) (by decide) rfl (fun ls hl => ?_)
                    refine lv_goto (tgt := 18) hx hb dX12_sumUp_155 (by decide) ?_
                    exact ih1234 v1261 w1233_i_12_19 w1233_l_12_17 w1233_l_12_18 ⟨by omega, by omega⟩ (show 0 ≤ (w1233_l_12_18 : Int64).toInt from by omega) (show (w1233_l_12_18 : Int64).toInt ≤ 9999 * (v1261 : Int32).toInt from by omega) (show 100 * (w1233_i_12_19 : Int32).toInt ≤ (w1233_l_12_18 : Int64).toInt from by omega) (show 0 ≤ (w1233_i_12_19 : Int32).toInt from by omega) (show (w1233_i_12_19 : Int32).toInt ≤ (v1261 : Int32).toInt from by omega) (show (w1233_l_12_17 : Int64).toInt = (caL (cyP (fa 12 4) (fa 12 5) (fa 12 11) (fa 12 12) (a).toInt (d).toInt (b).toInt) (owY (fa 12 9) (fa 12 10) (iv 12 20).toInt (iv 12 21).toInt (iv 12 22).toInt) (fa 12 8) ((v1261 : Int32).toInt).toNat).toInt from (by
                          have := congrArg Int32.toInt (show v1236 = fa 12 9 ((x1233_4 : Int32).toInt).toNat from ev1236)
                          have := congrArg Int32.toInt (show v1249 = fa 12 10 ((x1233_4 : Int32).toInt).toNat from ev1249)
                          have := congrArg Int32.toInt (show v1251 = fa 12 4 ((x1233_4 : Int32).toInt).toNat from ev1251)
                          have := congrArg Int32.toInt (show v1254 = fa 12 5 ((x1233_4 : Int32).toInt).toNat from ev1254)
                          have y9 : ((r1257 : Int32).toInt = 1 ∧ (fa 12 11 ((x1233_4 : Int32).toInt).toNat).toInt ≤ (d : Int32).toInt ∧ ((fa 12 12 ((x1233_4 : Int32).toInt).toNat).toInt < 0 ∨ (d : Int32).toInt < (fa 12 12 ((x1233_4 : Int32).toInt).toNat).toInt)) ∨ ((r1257 : Int32).toInt = 0 ∧ ¬ ((fa 12 11 ((x1233_4 : Int32).toInt).toNat).toInt ≤ (d : Int32).toInt ∧ ((fa 12 12 ((x1233_4 : Int32).toInt).toNat).toInt < 0 ∨ (d : Int32).toInt < (fa 12 12 ((x1233_4 : Int32).toInt).toNat).toInt))) := xr1257_0
                          have hs9 : ((v1261 : Int32).toInt).toNat = ((x1233_4 : Int32).toInt).toNat + 1 := by omega
                          have hc : ¬ (((fa 12 4 ((x1233_4 : Int32).toInt).toNat).toInt = a.toInt ∧ (fa 12 5 ((x1233_4 : Int32).toInt).toNat).toInt = b.toInt ∧ (fa 12 11 ((x1233_4 : Int32).toInt).toNat).toInt ≤ d.toInt ∧ ((fa 12 12 ((x1233_4 : Int32).toInt).toNat).toInt < 0 ∨ d.toInt < (fa 12 12 ((x1233_4 : Int32).toInt).toNat).toInt)) ∧ ¬ ((fa 12 9 ((x1233_4 : Int32).toInt).toNat).toInt = (iv 12 20).toInt ∨ (fa 12 10 ((x1233_4 : Int32).toInt).toNat).toInt = (iv 12 21).toInt ∨ ((((x1233_4 : Int32).toInt).toNat : Nat) : Int) = (iv 12 22).toInt)) := by omega
                          rw [caL_n hs9 hc]; exact hq1234_5)) (show (w1233_l_12_18 : Int64).toInt = (caL (cyP (fa 12 4) (fa 12 5) (fa 12 11) (fa 12 12) (a).toInt (d).toInt (b).toInt) (owY (fa 12 9) (fa 12 10) (iv 12 20).toInt (iv 12 21).toInt (iv 12 22).toInt) (fa 12 7) ((v1261 : Int32).toInt).toNat).toInt from (by
                          have := congrArg Int32.toInt (show v1236 = fa 12 9 ((x1233_4 : Int32).toInt).toNat from ev1236)
                          have := congrArg Int32.toInt (show v1249 = fa 12 10 ((x1233_4 : Int32).toInt).toNat from ev1249)
                          have := congrArg Int32.toInt (show v1251 = fa 12 4 ((x1233_4 : Int32).toInt).toNat from ev1251)
                          have := congrArg Int32.toInt (show v1254 = fa 12 5 ((x1233_4 : Int32).toInt).toNat from ev1254)
                          have y9 : ((r1257 : Int32).toInt = 1 ∧ (fa 12 11 ((x1233_4 : Int32).toInt).toNat).toInt ≤ (d : Int32).toInt ∧ ((fa 12 12 ((x1233_4 : Int32).toInt).toNat).toInt < 0 ∨ (d : Int32).toInt < (fa 12 12 ((x1233_4 : Int32).toInt).toNat).toInt)) ∨ ((r1257 : Int32).toInt = 0 ∧ ¬ ((fa 12 11 ((x1233_4 : Int32).toInt).toNat).toInt ≤ (d : Int32).toInt ∧ ((fa 12 12 ((x1233_4 : Int32).toInt).toNat).toInt < 0 ∨ (d : Int32).toInt < (fa 12 12 ((x1233_4 : Int32).toInt).toNat).toInt))) := xr1257_0
                          have hs9 : ((v1261 : Int32).toInt).toNat = ((x1233_4 : Int32).toInt).toNat + 1 := by omega
                          have hc : ¬ (((fa 12 4 ((x1233_4 : Int32).toInt).toNat).toInt = a.toInt ∧ (fa 12 5 ((x1233_4 : Int32).toInt).toNat).toInt = b.toInt ∧ (fa 12 11 ((x1233_4 : Int32).toInt).toNat).toInt ≤ d.toInt ∧ ((fa 12 12 ((x1233_4 : Int32).toInt).toNat).toInt < 0 ∨ d.toInt < (fa 12 12 ((x1233_4 : Int32).toInt).toNat).toInt)) ∧ ¬ ((fa 12 9 ((x1233_4 : Int32).toInt).toNat).toInt = (iv 12 20).toInt ∨ (fa 12 10 ((x1233_4 : Int32).toInt).toNat).toInt = (iv 12 21).toInt ∨ ((((x1233_4 : Int32).toInt).toNat : Nat) : Int) = (iv 12 22).toInt)) := by omega
                          rw [caL_n hs9 hc]; exact hq1234_6)) (show (w1233_i_12_19 : Int32).toInt = (caC (cyP (fa 12 4) (fa 12 5) (fa 12 11) (fa 12 12) (a).toInt (d).toInt (b).toInt) (owY (fa 12 9) (fa 12 10) (iv 12 20).toInt (iv 12 21).toInt (iv 12 22).toInt) ((v1261 : Int32).toInt).toNat).toInt from (by
                          have := congrArg Int32.toInt (show v1236 = fa 12 9 ((x1233_4 : Int32).toInt).toNat from ev1236)
                          have := congrArg Int32.toInt (show v1249 = fa 12 10 ((x1233_4 : Int32).toInt).toNat from ev1249)
                          have := congrArg Int32.toInt (show v1251 = fa 12 4 ((x1233_4 : Int32).toInt).toNat from ev1251)
                          have := congrArg Int32.toInt (show v1254 = fa 12 5 ((x1233_4 : Int32).toInt).toNat from ev1254)
                          have y9 : ((r1257 : Int32).toInt = 1 ∧ (fa 12 11 ((x1233_4 : Int32).toInt).toNat).toInt ≤ (d : Int32).toInt ∧ ((fa 12 12 ((x1233_4 : Int32).toInt).toNat).toInt < 0 ∨ (d : Int32).toInt < (fa 12 12 ((x1233_4 : Int32).toInt).toNat).toInt)) ∨ ((r1257 : Int32).toInt = 0 ∧ ¬ ((fa 12 11 ((x1233_4 : Int32).toInt).toNat).toInt ≤ (d : Int32).toInt ∧ ((fa 12 12 ((x1233_4 : Int32).toInt).toNat).toInt < 0 ∨ (d : Int32).toInt < (fa 12 12 ((x1233_4 : Int32).toInt).toNat).toInt))) := xr1257_0
                          have hs9 : ((v1261 : Int32).toInt).toNat = ((x1233_4 : Int32).toInt).toNat + 1 := by omega
                          have hc : ¬ (((fa 12 4 ((x1233_4 : Int32).toInt).toNat).toInt = a.toInt ∧ (fa 12 5 ((x1233_4 : Int32).toInt).toNat).toInt = b.toInt ∧ (fa 12 11 ((x1233_4 : Int32).toInt).toNat).toInt ≤ d.toInt ∧ ((fa 12 12 ((x1233_4 : Int32).toInt).toNat).toInt < 0 ∨ d.toInt < (fa 12 12 ((x1233_4 : Int32).toInt).toNat).toInt)) ∧ ¬ ((fa 12 9 ((x1233_4 : Int32).toInt).toNat).toInt = (iv 12 20).toInt ∨ (fa 12 10 ((x1233_4 : Int32).toInt).toNat).toInt = (iv 12 21).toInt ∨ ((((x1233_4 : Int32).toInt).toNat : Nat) : Int) = (iv 12 22).toInt)) := by omega
                          rw [caC_n hs9 hc]; exact hq1234_7)) (show (v1261 : Int32).toInt ≤ ((iv 12 3) : Int32).toInt from by omega) (by omega) _ _ ls hP hD hS (lv_sub hl [0, 2, 3, 4, 5] rfl)
                  · exact absurd c1260 (by decide)
          · have fc1250 := z_ne (rfl : (v1249).toInt = _) (rfl : ((iv 12 21)).toInt = _) c1250
            refine lv_iload hx hb dX12_sumUp_55 (lv_at hl 0 rfl) ?_
            refine lv_aload_n hx hb dX12_sumUp_57 rfl (lv_at hl 1 rfl) ?_
            refine gM_12_22 hx hb ht hown hK hP m_1161 (v := (iv 12 22)) rfl dX12_sumUp_58 ?_
            refine lv_icmp_ne (tgt := 68) hx hb dX12_sumUp_61 (by decide) (fun c1262 => ?_) (fun c1262 => ?_)
            · have fc1262 := z_ne (rfl : (x1233_4).toInt = _) (rfl : ((iv 12 22)).toInt = _) c1262
              refine lv_iconst (v := 0) hx hb dX12_sumUp_68 (by decide) ?_
              refine lv_istore (lv' := [(5, .int 0), (4, .int x1233_4), (0, .ref h), (1, .int a), (2, .int b), (3, .int d)]) hx hb dX12_sumUp_69 hl (by decide) rfl (fun ls hl => ?_)
              refine lv_aload_n hx hb dX12_sumUp_71 rfl (lv_at hl 2 rfl) ?_
              refine gM_12_4 hx hb ht hown hK hP m_1143 dX12_sumUp_72 ?_
              refine lv_iload hx hb dX12_sumUp_75 (lv_at hl 1 rfl) ?_
              refine lM_12_4 hx hb hK hP (f := (fa 12 4)) rfl (vp_in_iff.mpr ⟨by omega, by omega⟩) dX12_sumUp_77 ?_
              refine lv_topi (fun v1263 ev1263 => ?_)
              refine lv_iload_n hx hb dX12_sumUp_78 rfl (lv_at hl 3 rfl) ?_
              refine lv_icmp_ne (tgt := 152) hx hb dX12_sumUp_79 (by decide) (fun c1264 => ?_) (fun c1264 => ?_)
              · have fc1264 := z_ne (rfl : (v1263).toInt = _) (rfl : (a).toInt = _) c1264
                obtain ⟨v1265, ev1265⟩ : ∃ y : Int32, y = x1233_4 + 1 := ⟨_, rfl⟩
                have tv1265 := z_add ev1265 rfl (by decide : (1 : Int32).toInt = 1) (by omega) (by omega)
                refine lv_iinc (v := v1265) (lv' := [(4, .int v1265), (5, .int 0), (0, .ref h), (1, .int a), (2, .int b), (3, .int d)]) hx hb dX12_sumUp_152 hl (k := 1) rfl (by rw [ev1265]; rfl) (by decide) rfl (fun ls hl => ?_)
                refine lv_goto (tgt := 18) hx hb dX12_sumUp_155 (by decide) ?_
                exact ih1234 v1265 w1233_i_12_19 w1233_l_12_17 w1233_l_12_18 ⟨by omega, by omega⟩ (show 0 ≤ (w1233_l_12_18 : Int64).toInt from by omega) (show (w1233_l_12_18 : Int64).toInt ≤ 9999 * (v1265 : Int32).toInt from by omega) (show 100 * (w1233_i_12_19 : Int32).toInt ≤ (w1233_l_12_18 : Int64).toInt from by omega) (show 0 ≤ (w1233_i_12_19 : Int32).toInt from by omega) (show (w1233_i_12_19 : Int32).toInt ≤ (v1265 : Int32).toInt from by omega) (show (w1233_l_12_17 : Int64).toInt = (caL (cyP (fa 12 4) (fa 12 5) (fa 12 11) (fa 12 12) (a).toInt (d).toInt (b).toInt) (owY (fa 12 9) (fa 12 10) (iv 12 20).toInt (iv 12 21).toInt (iv 12 22).toInt) (fa 12 8) ((v1265 : Int32).toInt).toNat).toInt from (by
                      have := congrArg Int32.toInt (show v1236 = fa 12 9 ((x1233_4 : Int32).toInt).toNat from ev1236)
                      have := congrArg Int32.toInt (show v1249 = fa 12 10 ((x1233_4 : Int32).toInt).toNat from ev1249)
                      have := congrArg Int32.toInt (show v1263 = fa 12 4 ((x1233_4 : Int32).toInt).toNat from ev1263)
                      have hs9 : ((v1265 : Int32).toInt).toNat = ((x1233_4 : Int32).toInt).toNat + 1 := by omega
                      have hc : ¬ (((fa 12 4 ((x1233_4 : Int32).toInt).toNat).toInt = a.toInt ∧ (fa 12 5 ((x1233_4 : Int32).toInt).toNat).toInt = b.toInt ∧ (fa 12 11 ((x1233_4 : Int32).toInt).toNat).toInt ≤ d.toInt ∧ ((fa 12 12 ((x1233_4 : Int32).toInt).toNat).toInt < 0 ∨ d.toInt < (fa 12 12 ((x1233_4 : Int32).toInt).toNat).toInt)) ∧ ¬ ((fa 12 9 ((x1233_4 : Int32).toInt).toNat).toInt = (iv 12 20).toInt ∨ (fa 12 10 ((x1233_4 : Int32).toInt).toNat).toInt = (iv 12 21).toInt ∨ ((((x1233_4 : Int32).toInt).toNat : Nat) : Int) = (iv 12 22).toInt)) := by omega
                      rw [caL_n hs9 hc]; exact hq1234_5)) (show (w1233_l_12_18 : Int64).toInt = (caL (cyP (fa 12 4) (fa 12 5) (fa 12 11) (fa 12 12) (a).toInt (d).toInt (b).toInt) (owY (fa 12 9) (fa 12 10) (iv 12 20).toInt (iv 12 21).toInt (iv 12 22).toInt) (fa 12 7) ((v1265 : Int32).toInt).toNat).toInt from (by
                      have := congrArg Int32.toInt (show v1236 = fa 12 9 ((x1233_4 : Int32).toInt).toNat from ev1236)
                      have := congrArg Int32.toInt (show v1249 = fa 12 10 ((x1233_4 : Int32).toInt).toNat from ev1249)
                      have := congrArg Int32.toInt (show v1263 = fa 12 4 ((x1233_4 : Int32).toInt).toNat from ev1263)
                      have hs9 : ((v1265 : Int32).toInt).toNat = ((x1233_4 : Int32).toInt).toNat + 1 := by omega
                      have hc : ¬ (((fa 12 4 ((x1233_4 : Int32).toInt).toNat).toInt = a.toInt ∧ (fa 12 5 ((x1233_4 : Int32).toInt).toNat).toInt = b.toInt ∧ (fa 12 11 ((x1233_4 : Int32).toInt).toNat).toInt ≤ d.toInt ∧ ((fa 12 12 ((x1233_4 : Int32).toInt).toNat).toInt < 0 ∨ d.toInt < (fa 12 12 ((x1233_4 : Int32).toInt).toNat).toInt)) ∧ ¬ ((fa 12 9 ((x1233_4 : Int32).toInt).toNat).toInt = (iv 12 20).toInt ∨ (fa 12 10 ((x1233_4 : Int32).toInt).toNat).toInt = (iv 12 21).toInt ∨ ((((x1233_4 : Int32).toInt).toNat : Nat) : Int) = (iv 12 22).toInt)) := by omega
                      rw [caL_n hs9 hc]; exact hq1234_6)) (show (w1233_i_12_19 : Int32).toInt = (caC (cyP (fa 12 4) (fa 12 5) (fa 12 11) (fa 12 12) (a).toInt (d).toInt (b).toInt) (owY (fa 12 9) (fa 12 10) (iv 12 20).toInt (iv 12 21).toInt (iv 12 22).toInt) ((v1265 : Int32).toInt).toNat).toInt from (by
                      have := congrArg Int32.toInt (show v1236 = fa 12 9 ((x1233_4 : Int32).toInt).toNat from ev1236)
                      have := congrArg Int32.toInt (show v1249 = fa 12 10 ((x1233_4 : Int32).toInt).toNat from ev1249)
                      have := congrArg Int32.toInt (show v1263 = fa 12 4 ((x1233_4 : Int32).toInt).toNat from ev1263)
                      have hs9 : ((v1265 : Int32).toInt).toNat = ((x1233_4 : Int32).toInt).toNat + 1 := by omega
                      have hc : ¬ (((fa 12 4 ((x1233_4 : Int32).toInt).toNat).toInt = a.toInt ∧ (fa 12 5 ((x1233_4 : Int32).toInt).toNat).toInt = b.toInt ∧ (fa 12 11 ((x1233_4 : Int32).toInt).toNat).toInt ≤ d.toInt ∧ ((fa 12 12 ((x1233_4 : Int32).toInt).toNat).toInt < 0 ∨ d.toInt < (fa 12 12 ((x1233_4 : Int32).toInt).toNat).toInt)) ∧ ¬ ((fa 12 9 ((x1233_4 : Int32).toInt).toNat).toInt = (iv 12 20).toInt ∨ (fa 12 10 ((x1233_4 : Int32).toInt).toNat).toInt = (iv 12 21).toInt ∨ ((((x1233_4 : Int32).toInt).toNat : Nat) : Int) = (iv 12 22).toInt)) := by omega
                      rw [caC_n hs9 hc]; exact hq1234_7)) (show (v1265 : Int32).toInt ≤ ((iv 12 3) : Int32).toInt from by omega) (by omega) _ _ ls hP hD hS (lv_sub hl [0, 2, 3, 4, 5] rfl)
              · have fc1264 := z_eq (rfl : (v1263).toInt = _) (rfl : (a).toInt = _) c1264
                refine lv_aload_n hx hb dX12_sumUp_82 rfl (lv_at hl 2 rfl) ?_
                refine gM_12_5 hx hb ht hown hK hP m_1144 dX12_sumUp_83 ?_
                refine lv_iload hx hb dX12_sumUp_86 (lv_at hl 1 rfl) ?_
                refine lM_12_5 hx hb hK hP (f := (fa 12 5)) rfl (vp_in_iff.mpr ⟨by omega, by omega⟩) dX12_sumUp_88 ?_
                refine lv_topi (fun v1266 ev1266 => ?_)
                refine lv_iload_n hx hb dX12_sumUp_89 rfl (lv_at hl 4 rfl) ?_
                refine lv_icmp_ne (tgt := 152) hx hb dX12_sumUp_90 (by decide) (fun c1267 => ?_) (fun c1267 => ?_)
                · have fc1267 := z_ne (rfl : (v1266).toInt = _) (rfl : (b).toInt = _) c1267
                  obtain ⟨v1268, ev1268⟩ : ∃ y : Int32, y = x1233_4 + 1 := ⟨_, rfl⟩
                  have tv1268 := z_add ev1268 rfl (by decide : (1 : Int32).toInt = 1) (by omega) (by omega)
                  refine lv_iinc (v := v1268) (lv' := [(4, .int v1268), (5, .int 0), (0, .ref h), (1, .int a), (2, .int b), (3, .int d)]) hx hb dX12_sumUp_152 hl (k := 1) rfl (by rw [ev1268]; rfl) (by decide) rfl (fun ls hl => ?_)
                  refine lv_goto (tgt := 18) hx hb dX12_sumUp_155 (by decide) ?_
                  exact ih1234 v1268 w1233_i_12_19 w1233_l_12_17 w1233_l_12_18 ⟨by omega, by omega⟩ (show 0 ≤ (w1233_l_12_18 : Int64).toInt from by omega) (show (w1233_l_12_18 : Int64).toInt ≤ 9999 * (v1268 : Int32).toInt from by omega) (show 100 * (w1233_i_12_19 : Int32).toInt ≤ (w1233_l_12_18 : Int64).toInt from by omega) (show 0 ≤ (w1233_i_12_19 : Int32).toInt from by omega) (show (w1233_i_12_19 : Int32).toInt ≤ (v1268 : Int32).toInt from by omega) (show (w1233_l_12_17 : Int64).toInt = (caL (cyP (fa 12 4) (fa 12 5) (fa 12 11) (fa 12 12) (a).toInt (d).toInt (b).toInt) (owY (fa 12 9) (fa 12 10) (iv 12 20).toInt (iv 12 21).toInt (iv 12 22).toInt) (fa 12 8) ((v1268 : Int32).toInt).toNat).toInt from (by
                        have := congrArg Int32.toInt (show v1236 = fa 12 9 ((x1233_4 : Int32).toInt).toNat from ev1236)
                        have := congrArg Int32.toInt (show v1249 = fa 12 10 ((x1233_4 : Int32).toInt).toNat from ev1249)
                        have := congrArg Int32.toInt (show v1263 = fa 12 4 ((x1233_4 : Int32).toInt).toNat from ev1263)
                        have := congrArg Int32.toInt (show v1266 = fa 12 5 ((x1233_4 : Int32).toInt).toNat from ev1266)
                        have hs9 : ((v1268 : Int32).toInt).toNat = ((x1233_4 : Int32).toInt).toNat + 1 := by omega
                        have hc : ¬ (((fa 12 4 ((x1233_4 : Int32).toInt).toNat).toInt = a.toInt ∧ (fa 12 5 ((x1233_4 : Int32).toInt).toNat).toInt = b.toInt ∧ (fa 12 11 ((x1233_4 : Int32).toInt).toNat).toInt ≤ d.toInt ∧ ((fa 12 12 ((x1233_4 : Int32).toInt).toNat).toInt < 0 ∨ d.toInt < (fa 12 12 ((x1233_4 : Int32).toInt).toNat).toInt)) ∧ ¬ ((fa 12 9 ((x1233_4 : Int32).toInt).toNat).toInt = (iv 12 20).toInt ∨ (fa 12 10 ((x1233_4 : Int32).toInt).toNat).toInt = (iv 12 21).toInt ∨ ((((x1233_4 : Int32).toInt).toNat : Nat) : Int) = (iv 12 22).toInt)) := by omega
                        rw [caL_n hs9 hc]; exact hq1234_5)) (show (w1233_l_12_18 : Int64).toInt = (caL (cyP (fa 12 4) (fa 12 5) (fa 12 11) (fa 12 12) (a).toInt (d).toInt (b).toInt) (owY (fa 12 9) (fa 12 10) (iv 12 20).toInt (iv 12 21).toInt (iv 12 22).toInt) (fa 12 7) ((v1268 : Int32).toInt).toNat).toInt from (by
                        have := congrArg Int32.toInt (show v1236 = fa 12 9 ((x1233_4 : Int32).toInt).toNat from ev1236)
                        have := congrArg Int32.toInt (show v1249 = fa 12 10 ((x1233_4 : Int32).toInt).toNat from ev1249)
                        have := congrArg Int32.toInt (show v1263 = fa 12 4 ((x1233_4 : Int32).toInt).toNat from ev1263)
                        have := congrArg Int32.toInt (show v1266 = fa 12 5 ((x1233_4 : Int32).toInt).toNat from ev1266)
                        have hs9 : ((v1268 : Int32).toInt).toNat = ((x1233_4 : Int32).toInt).toNat + 1 := by omega
                        have hc : ¬ (((fa 12 4 ((x1233_4 : Int32).toInt).toNat).toInt = a.toInt ∧ (fa 12 5 ((x1233_4 : Int32).toInt).toNat).toInt = b.toInt ∧ (fa 12 11 ((x1233_4 : Int32).toInt).toNat).toInt ≤ d.toInt ∧ ((fa 12 12 ((x1233_4 : Int32).toInt).toNat).toInt < 0 ∨ d.toInt < (fa 12 12 ((x1233_4 : Int32).toInt).toNat).toInt)) ∧ ¬ ((fa 12 9 ((x1233_4 : Int32).toInt).toNat).toInt = (iv 12 20).toInt ∨ (fa 12 10 ((x1233_4 : Int32).toInt).toNat).toInt = (iv 12 21).toInt ∨ ((((x1233_4 : Int32).toInt).toNat : Nat) : Int) = (iv 12 22).toInt)) := by omega
                        rw [caL_n hs9 hc]; exact hq1234_6)) (show (w1233_i_12_19 : Int32).toInt = (caC (cyP (fa 12 4) (fa 12 5) (fa 12 11) (fa 12 12) (a).toInt (d).toInt (b).toInt) (owY (fa 12 9) (fa 12 10) (iv 12 20).toInt (iv 12 21).toInt (iv 12 22).toInt) ((v1268 : Int32).toInt).toNat).toInt from (by
                        have := congrArg Int32.toInt (show v1236 = fa 12 9 ((x1233_4 : Int32).toInt).toNat from ev1236)
                        have := congrArg Int32.toInt (show v1249 = fa 12 10 ((x1233_4 : Int32).toInt).toNat from ev1249)
                        have := congrArg Int32.toInt (show v1263 = fa 12 4 ((x1233_4 : Int32).toInt).toNat from ev1263)
                        have := congrArg Int32.toInt (show v1266 = fa 12 5 ((x1233_4 : Int32).toInt).toNat from ev1266)
                        have hs9 : ((v1268 : Int32).toInt).toNat = ((x1233_4 : Int32).toInt).toNat + 1 := by omega
                        have hc : ¬ (((fa 12 4 ((x1233_4 : Int32).toInt).toNat).toInt = a.toInt ∧ (fa 12 5 ((x1233_4 : Int32).toInt).toNat).toInt = b.toInt ∧ (fa 12 11 ((x1233_4 : Int32).toInt).toNat).toInt ≤ d.toInt ∧ ((fa 12 12 ((x1233_4 : Int32).toInt).toNat).toInt < 0 ∨ d.toInt < (fa 12 12 ((x1233_4 : Int32).toInt).toNat).toInt)) ∧ ¬ ((fa 12 9 ((x1233_4 : Int32).toInt).toNat).toInt = (iv 12 20).toInt ∨ (fa 12 10 ((x1233_4 : Int32).toInt).toNat).toInt = (iv 12 21).toInt ∨ ((((x1233_4 : Int32).toInt).toNat : Nat) : Int) = (iv 12 22).toInt)) := by omega
                        rw [caC_n hs9 hc]; exact hq1234_7)) (show (v1268 : Int32).toInt ≤ ((iv 12 3) : Int32).toInt from by omega) (by omega) _ _ ls hP hD hS (lv_sub hl [0, 2, 3, 4, 5] rfl)
                · have fc1267 := z_eq (rfl : (v1266).toInt = _) (rfl : (b).toInt = _) c1267
                  refine lv_aload_n hx hb dX12_sumUp_93 rfl (lv_at hl 2 rfl) ?_
                  refine lv_iload hx hb dX12_sumUp_94 (lv_at hl 1 rfl) ?_
                  refine lv_iload_n hx hb dX12_sumUp_96 rfl (lv_at hl 5 rfl) ?_
                  refine vp_callSi (W.runV (As := [.int x1233_4, .int d]) (rest := []) ⟨hx, hb, hml, hown, ht⟩ (c_X12_isThere_x l dC dI h g ca (u2 iv 12 19 w1233_i_12_19) (u2 (u2 lv 12 17 w1233_l_12_17) 12 18 w1233_l_12_18) fa la (IX_i (c := 12) (k := 19) hI (full_i _)) x1233_4 d ⟨by omega, by omega⟩) (kV 2 ht m_1438 m_1440 m_46 m_89 m_1441 rfl rfl hd_X12_isThere_v ⟨Nat.le_of_ble_eq_true rfl, Nat.le_of_ble_eq_true rfl⟩) (vR hP hK (rM_12 hK hP)) rfl rfl hl.1 rfl (lv_room (Nat.le_of_ble_eq_true rfl)) dX12_sumUp_97 ⟨Nat.le_of_ble_eq_true rfl, Nat.le_of_ble_eq_true rfl⟩) (fun r1269 hr1269 => ?_)
                  obtain ⟨hr1269, xr1269_0⟩ := hr1269
                  have xr1269_0 : (((r1269 : Int32).toInt = 1 ∧ ((fa 12 11) (x1233_4 : Int32).toNatClampNeg).toInt ≤ (d : Int32).toInt ∧ (((fa 12 12) (x1233_4 : Int32).toNatClampNeg).toInt < 0 ∨ (d : Int32).toInt < ((fa 12 12) (x1233_4 : Int32).toNatClampNeg).toInt)) ∨ ((r1269 : Int32).toInt = 0 ∧ ¬ (((fa 12 11) (x1233_4 : Int32).toNatClampNeg).toInt ≤ (d : Int32).toInt ∧ (((fa 12 12) (x1233_4 : Int32).toNatClampNeg).toInt < 0 ∨ (d : Int32).toInt < ((fa 12 12) (x1233_4 : Int32).toNatClampNeg).toInt)))) := xr1269_0
                  refine lv_if_eq (tgt := 152) hx hb dX12_sumUp_100 (by decide) (fun c1270 => ?_) (fun c1270 => ?_)
                  · have fc1270 := z_eq (rfl : (r1269).toInt = _) (by decide : (0 : Int32).toInt = 0) c1270
                    obtain ⟨v1271, ev1271⟩ : ∃ y : Int32, y = x1233_4 + 1 := ⟨_, rfl⟩
                    have tv1271 := z_add ev1271 rfl (by decide : (1 : Int32).toInt = 1) (by omega) (by omega)
                    refine lv_iinc (v := v1271) (lv' := [(4, .int v1271), (5, .int 0), (0, .ref h), (1, .int a), (2, .int b), (3, .int d)]) hx hb dX12_sumUp_152 hl (k := 1) rfl (by rw [ev1271]; rfl) (by decide) rfl (fun ls hl => ?_)
                    refine lv_goto (tgt := 18) hx hb dX12_sumUp_155 (by decide) ?_
                    exact ih1234 v1271 w1233_i_12_19 w1233_l_12_17 w1233_l_12_18 ⟨by omega, by omega⟩ (show 0 ≤ (w1233_l_12_18 : Int64).toInt from by omega) (show (w1233_l_12_18 : Int64).toInt ≤ 9999 * (v1271 : Int32).toInt from by omega) (show 100 * (w1233_i_12_19 : Int32).toInt ≤ (w1233_l_12_18 : Int64).toInt from by omega) (show 0 ≤ (w1233_i_12_19 : Int32).toInt from by omega) (show (w1233_i_12_19 : Int32).toInt ≤ (v1271 : Int32).toInt from by omega) (show (w1233_l_12_17 : Int64).toInt = (caL (cyP (fa 12 4) (fa 12 5) (fa 12 11) (fa 12 12) (a).toInt (d).toInt (b).toInt) (owY (fa 12 9) (fa 12 10) (iv 12 20).toInt (iv 12 21).toInt (iv 12 22).toInt) (fa 12 8) ((v1271 : Int32).toInt).toNat).toInt from (by
                          have := congrArg Int32.toInt (show v1236 = fa 12 9 ((x1233_4 : Int32).toInt).toNat from ev1236)
                          have := congrArg Int32.toInt (show v1249 = fa 12 10 ((x1233_4 : Int32).toInt).toNat from ev1249)
                          have := congrArg Int32.toInt (show v1263 = fa 12 4 ((x1233_4 : Int32).toInt).toNat from ev1263)
                          have := congrArg Int32.toInt (show v1266 = fa 12 5 ((x1233_4 : Int32).toInt).toNat from ev1266)
                          have y9 : ((r1269 : Int32).toInt = 1 ∧ (fa 12 11 ((x1233_4 : Int32).toInt).toNat).toInt ≤ (d : Int32).toInt ∧ ((fa 12 12 ((x1233_4 : Int32).toInt).toNat).toInt < 0 ∨ (d : Int32).toInt < (fa 12 12 ((x1233_4 : Int32).toInt).toNat).toInt)) ∨ ((r1269 : Int32).toInt = 0 ∧ ¬ ((fa 12 11 ((x1233_4 : Int32).toInt).toNat).toInt ≤ (d : Int32).toInt ∧ ((fa 12 12 ((x1233_4 : Int32).toInt).toNat).toInt < 0 ∨ (d : Int32).toInt < (fa 12 12 ((x1233_4 : Int32).toInt).toNat).toInt))) := xr1269_0
                          have hs9 : ((v1271 : Int32).toInt).toNat = ((x1233_4 : Int32).toInt).toNat + 1 := by omega
                          have hc : ¬ (((fa 12 4 ((x1233_4 : Int32).toInt).toNat).toInt = a.toInt ∧ (fa 12 5 ((x1233_4 : Int32).toInt).toNat).toInt = b.toInt ∧ (fa 12 11 ((x1233_4 : Int32).toInt).toNat).toInt ≤ d.toInt ∧ ((fa 12 12 ((x1233_4 : Int32).toInt).toNat).toInt < 0 ∨ d.toInt < (fa 12 12 ((x1233_4 : Int32).toInt).toNat).toInt)) ∧ ¬ ((fa 12 9 ((x1233_4 : Int32).toInt).toNat).toInt = (iv 12 20).toInt ∨ (fa 12 10 ((x1233_4 : Int32).toInt).toNat).toInt = (iv 12 21).toInt ∨ ((((x1233_4 : Int32).toInt).toNat : Nat) : Int) = (iv 12 22).toInt)) := by omega
                          rw [caL_n hs9 hc]; exact hq1234_5)) (show (w1233_l_12_18 : Int64).toInt = (caL (cyP (fa 12 4) (fa 12 5) (fa 12 11) (fa 12 12) (a).toInt (d).toInt (b).toInt) (owY (fa 12 9) (fa 12 10) (iv 12 20).toInt (iv 12 21).toInt (iv 12 22).toInt) (fa 12 7) ((v1271 : Int32).toInt).toNat).toInt from (by
                          have := congrArg Int32.toInt (show v1236 = fa 12 9 ((x1233_4 : Int32).toInt).toNat from ev1236)
                          have := congrArg Int32.toInt (show v1249 = fa 12 10 ((x1233_4 : Int32).toInt).toNat from ev1249)
                          have := congrArg Int32.toInt (show v1263 = fa 12 4 ((x1233_4 : Int32).toInt).toNat from ev1263)
                          have := congrArg Int32.toInt (show v1266 = fa 12 5 ((x1233_4 : Int32).toInt).toNat from ev1266)
                          have y9 : ((r1269 : Int32).toInt = 1 ∧ (fa 12 11 ((x1233_4 : Int32).toInt).toNat).toInt ≤ (d : Int32).toInt ∧ ((fa 12 12 ((x1233_4 : Int32).toInt).toNat).toInt < 0 ∨ (d : Int32).toInt < (fa 12 12 ((x1233_4 : Int32).toInt).toNat).toInt)) ∨ ((r1269 : Int32).toInt = 0 ∧ ¬ ((fa 12 11 ((x1233_4 : Int32).toInt).toNat).toInt ≤ (d : Int32).toInt ∧ ((fa 12 12 ((x1233_4 : Int32).toInt).toNat).toInt < 0 ∨ (d : Int32).toInt < (fa 12 12 ((x1233_4 : Int32).toInt).toNat).toInt))) := xr1269_0
                          have hs9 : ((v1271 : Int32).toInt).toNat = ((x1233_4 : Int32).toInt).toNat + 1 := by omega
                          have hc : ¬ (((fa 12 4 ((x1233_4 : Int32).toInt).toNat).toInt = a.toInt ∧ (fa 12 5 ((x1233_4 : Int32).toInt).toNat).toInt = b.toInt ∧ (fa 12 11 ((x1233_4 : Int32).toInt).toNat).toInt ≤ d.toInt ∧ ((fa 12 12 ((x1233_4 : Int32).toInt).toNat).toInt < 0 ∨ d.toInt < (fa 12 12 ((x1233_4 : Int32).toInt).toNat).toInt)) ∧ ¬ ((fa 12 9 ((x1233_4 : Int32).toInt).toNat).toInt = (iv 12 20).toInt ∨ (fa 12 10 ((x1233_4 : Int32).toInt).toNat).toInt = (iv 12 21).toInt ∨ ((((x1233_4 : Int32).toInt).toNat : Nat) : Int) = (iv 12 22).toInt)) := by omega
                          rw [caL_n hs9 hc]; exact hq1234_6)) (show (w1233_i_12_19 : Int32).toInt = (caC (cyP (fa 12 4) (fa 12 5) (fa 12 11) (fa 12 12) (a).toInt (d).toInt (b).toInt) (owY (fa 12 9) (fa 12 10) (iv 12 20).toInt (iv 12 21).toInt (iv 12 22).toInt) ((v1271 : Int32).toInt).toNat).toInt from (by
                          have := congrArg Int32.toInt (show v1236 = fa 12 9 ((x1233_4 : Int32).toInt).toNat from ev1236)
                          have := congrArg Int32.toInt (show v1249 = fa 12 10 ((x1233_4 : Int32).toInt).toNat from ev1249)
                          have := congrArg Int32.toInt (show v1263 = fa 12 4 ((x1233_4 : Int32).toInt).toNat from ev1263)
                          have := congrArg Int32.toInt (show v1266 = fa 12 5 ((x1233_4 : Int32).toInt).toNat from ev1266)
                          have y9 : ((r1269 : Int32).toInt = 1 ∧ (fa 12 11 ((x1233_4 : Int32).toInt).toNat).toInt ≤ (d : Int32).toInt ∧ ((fa 12 12 ((x1233_4 : Int32).toInt).toNat).toInt < 0 ∨ (d : Int32).toInt < (fa 12 12 ((x1233_4 : Int32).toInt).toNat).toInt)) ∨ ((r1269 : Int32).toInt = 0 ∧ ¬ ((fa 12 11 ((x1233_4 : Int32).toInt).toNat).toInt ≤ (d : Int32).toInt ∧ ((fa 12 12 ((x1233_4 : Int32).toInt).toNat).toInt < 0 ∨ (d : Int32).toInt < (fa 12 12 ((x1233_4 : Int32).toInt).toNat).toInt))) := xr1269_0
                          have hs9 : ((v1271 : Int32).toInt).toNat = ((x1233_4 : Int32).toInt).toNat + 1 := by omega
                          have hc : ¬ (((fa 12 4 ((x1233_4 : Int32).toInt).toNat).toInt = a.toInt ∧ (fa 12 5 ((x1233_4 : Int32).toInt).toNat).toInt = b.toInt ∧ (fa 12 11 ((x1233_4 : Int32).toInt).toNat).toInt ≤ d.toInt ∧ ((fa 12 12 ((x1233_4 : Int32).toInt).toNat).toInt < 0 ∨ d.toInt < (fa 12 12 ((x1233_4 : Int32).toInt).toNat).toInt)) ∧ ¬ ((fa 12 9 ((x1233_4 : Int32).toInt).toNat).toInt = (iv 12 20).toInt ∨ (fa 12 10 ((x1233_4 : Int32).toInt).toNat).toInt = (iv 12 21).toInt ∨ ((((x1233_4 : Int32).toInt).toNat : Nat) : Int) = (iv 12 22).toInt)) := by omega
                          rw [caC_n hs9 hc]; exact hq1234_7)) (show (v1271 : Int32).toInt ≤ ((iv 12 3) : Int32).toInt from by omega) (by omega) _ _ ls hP hD hS (lv_sub hl [0, 2, 3, 4, 5] rfl)
                  · have fc1270 := z_ne (rfl : (r1269).toInt = _) (by decide : (0 : Int32).toInt = 0) c1270
                    refine lv_iload hx hb dX12_sumUp_103 (lv_at hl 0 rfl) ?_
                    refine lv_if_ne (tgt := 152) hx hb dX12_sumUp_105 (by decide) (fun c1272 => ?_) (fun c1272 => ?_)
                    · exact absurd rfl c1272
                    · skip
                      refine lv_aload_n hx hb dX12_sumUp_108 rfl (lv_at hl 2 rfl) ?_
                      refine lv_dup hx hb dX12_sumUp_109 rfl ?_
                      refine gM_12_17 hx hb ht hown hK hP m_1156 (v := w1233_l_12_17) rfl dX12_sumUp_110 ?_
                      refine lv_aload_n hx hb dX12_sumUp_113 rfl (lv_at hl 2 rfl) ?_
                      refine gM_12_8 hx hb ht hown hK hP m_1147 dX12_sumUp_114 ?_
                      refine lv_iload hx hb dX12_sumUp_117 (lv_at hl 1 rfl) ?_
                      refine lM_12_8 hx hb hK hP (f := (fa 12 8)) rfl (vp_in_iff.mpr ⟨by omega, by omega⟩) dX12_sumUp_119 ?_
                      refine lv_topi (fun v1273 ev1273 => ?_)
                      refine lv_i2l (v := (v1273.toInt64)) hx hb dX12_sumUp_120 rfl ?_
                      refine lv_ladd hx hb dX12_sumUp_121 ?_
                      refine lv_topl (fun w1274 ew1274 => ?_)
                      refine pM_12_17 (v := w1274) hx hb ht hown hK hP hD hS m_1156 dX12_sumUp_122 (fun H locs hP hD hS => ?_)
                      have hP : va_P (dC, dI) classes (WM h g ca (u2 iv 12 19 w1233_i_12_19) (u2 (u2 lv 12 17 w1274) 12 18 w1233_l_12_18) fa la) H := hP
                      have hD : va_D A (WM h g ca (u2 iv 12 19 w1233_i_12_19) (u2 (u2 lv 12 17 w1274) 12 18 w1233_l_12_18) fa la) := hD
                      refine lv_aload_n hx hb dX12_sumUp_125 rfl (lv_at hl 2 rfl) ?_
                      refine lv_dup hx hb dX12_sumUp_126 rfl ?_
                      refine gM_12_18 hx hb ht hown hK hP m_1157 (v := w1233_l_12_18) rfl dX12_sumUp_127 ?_
                      refine lv_aload_n hx hb dX12_sumUp_130 rfl (lv_at hl 2 rfl) ?_
                      refine gM_12_7 hx hb ht hown hK hP m_1146 dX12_sumUp_131 ?_
                      refine lv_iload hx hb dX12_sumUp_134 (lv_at hl 1 rfl) ?_
                      refine lM_12_7 hx hb hK hP (f := (fa 12 7)) rfl (vp_in_iff.mpr ⟨by omega, by omega⟩) dX12_sumUp_136 ?_
                      refine lv_topi (fun v1275 ev1275 => ?_)
                      have tv1275 : 0 ≤ v1275.toInt ∧ v1275.toInt ≤ 9999 := by rw [ev1275]; exact hI.2 12 7 _
                      have hr9 := hJR (x1233_4 : Int32).toNatClampNeg (by show (((x1233_4 : Int32).toInt.toNat : Nat) : Int) < _; omega)
                      rw [← ev1275] at hr9
                      refine lv_i2l (v := (v1275.toInt64)) hx hb dX12_sumUp_137 rfl ?_
                      have : 0 ≤ (w1233_l_12_18 : Int64).toInt ∧ (w1233_l_12_18 : Int64).toInt ≤ 599940 := ⟨by omega, by omega⟩
                      refine lv_ladd hx hb dX12_sumUp_138 ?_
                      refine lv_topl (fun w1276 ew1276 => ?_)
                      have tw1276 := l_add ew1276 (rfl : (w1233_l_12_18).toInt = _) ((Int32.toInt_toInt64 v1275).trans rfl) (by omega) (by omega)
                      refine pM_12_18 (v := w1276) hx hb ht hown hK hP hD hS m_1157 dX12_sumUp_139 (fun H locs hP hD hS => ?_)
                      have hP : va_P (dC, dI) classes (WM h g ca (u2 iv 12 19 w1233_i_12_19) (u2 (u2 lv 12 17 w1274) 12 18 w1276) fa la) H := hP
                      have hD : va_D A (WM h g ca (u2 iv 12 19 w1233_i_12_19) (u2 (u2 lv 12 17 w1274) 12 18 w1276) fa la) := hD
                      refine lv_aload_n hx hb dX12_sumUp_142 rfl (lv_at hl 2 rfl) ?_
                      refine lv_dup hx hb dX12_sumUp_143 rfl ?_
                      refine gM_12_19 hx hb ht hown hK hP m_1158 (v := w1233_i_12_19) rfl dX12_sumUp_144 ?_
                      refine lv_iconst (v := 1) hx hb dX12_sumUp_147 (by decide) ?_
                      have : 0 ≤ (w1233_i_12_19 : Int32).toInt ∧ (w1233_i_12_19 : Int32).toInt ≤ 59 := ⟨by omega, by omega⟩
                      refine lv_iadd hx hb dX12_sumUp_148 ?_
                      refine lv_topi (fun v1277 ev1277 => ?_)
                      have tv1277 := z_add ev1277 (rfl : (w1233_i_12_19).toInt = _) (by decide : (1 : Int32).toInt = 1) (by omega) (by omega)
                      refine pM_12_19 (v := v1277) hx hb ht hown hK hP hD hS m_1158 dX12_sumUp_149 (fun H locs hP hD hS => ?_)
                      have hP : va_P (dC, dI) classes (WM h g ca (u2 iv 12 19 v1277) (u2 (u2 lv 12 17 w1274) 12 18 w1276) fa la) H := hP
                      have hD : va_D A (WM h g ca (u2 iv 12 19 v1277) (u2 (u2 lv 12 17 w1274) 12 18 w1276) fa la) := hD
                      obtain ⟨v1278, ev1278⟩ : ∃ y : Int32, y = x1233_4 + 1 := ⟨_, rfl⟩
                      have tv1278 := z_add ev1278 rfl (by decide : (1 : Int32).toInt = 1) (by omega) (by omega)
                      refine lv_iinc (v := v1278) (lv' := [(4, .int v1278), (5, .int 0), (0, .ref h), (1, .int a), (2, .int b), (3, .int d)]) hx hb dX12_sumUp_152 hl (k := 1) rfl (by rw [ev1278]; rfl) (by decide) rfl (fun ls hl => ?_)
                      refine lv_goto (tgt := 18) hx hb dX12_sumUp_155 (by decide) ?_
                      exact ih1234 v1278 v1277 w1274 w1276 ⟨by omega, by omega⟩ (show 0 ≤ (w1276 : Int64).toInt from by omega) (show (w1276 : Int64).toInt ≤ 9999 * (v1278 : Int32).toInt from by omega) (show 100 * (v1277 : Int32).toInt ≤ (w1276 : Int64).toInt from by omega) (show 0 ≤ (v1277 : Int32).toInt from by omega) (show (v1277 : Int32).toInt ≤ (v1278 : Int32).toInt from by omega) (show (w1274 : Int64).toInt = (caL (cyP (fa 12 4) (fa 12 5) (fa 12 11) (fa 12 12) (a).toInt (d).toInt (b).toInt) (owY (fa 12 9) (fa 12 10) (iv 12 20).toInt (iv 12 21).toInt (iv 12 22).toInt) (fa 12 8) ((v1278 : Int32).toInt).toNat).toInt from (by
                            have := congrArg Int32.toInt (show v1236 = fa 12 9 ((x1233_4 : Int32).toInt).toNat from ev1236)
                            have := congrArg Int32.toInt (show v1249 = fa 12 10 ((x1233_4 : Int32).toInt).toNat from ev1249)
                            have := congrArg Int32.toInt (show v1263 = fa 12 4 ((x1233_4 : Int32).toInt).toNat from ev1263)
                            have := congrArg Int32.toInt (show v1266 = fa 12 5 ((x1233_4 : Int32).toInt).toNat from ev1266)
                            have y9 : ((r1269 : Int32).toInt = 1 ∧ (fa 12 11 ((x1233_4 : Int32).toInt).toNat).toInt ≤ (d : Int32).toInt ∧ ((fa 12 12 ((x1233_4 : Int32).toInt).toNat).toInt < 0 ∨ (d : Int32).toInt < (fa 12 12 ((x1233_4 : Int32).toInt).toNat).toInt)) ∨ ((r1269 : Int32).toInt = 0 ∧ ¬ ((fa 12 11 ((x1233_4 : Int32).toInt).toNat).toInt ≤ (d : Int32).toInt ∧ ((fa 12 12 ((x1233_4 : Int32).toInt).toNat).toInt < 0 ∨ (d : Int32).toInt < (fa 12 12 ((x1233_4 : Int32).toInt).toNat).toInt))) := xr1269_0
                            have hs9 : ((v1278 : Int32).toInt).toNat = ((x1233_4 : Int32).toInt).toNat + 1 := by omega
                            have hc : (((fa 12 4 ((x1233_4 : Int32).toInt).toNat).toInt = a.toInt ∧ (fa 12 5 ((x1233_4 : Int32).toInt).toNat).toInt = b.toInt ∧ (fa 12 11 ((x1233_4 : Int32).toInt).toNat).toInt ≤ d.toInt ∧ ((fa 12 12 ((x1233_4 : Int32).toInt).toNat).toInt < 0 ∨ d.toInt < (fa 12 12 ((x1233_4 : Int32).toInt).toNat).toInt)) ∧ ¬ ((fa 12 9 ((x1233_4 : Int32).toInt).toNat).toInt = (iv 12 20).toInt ∨ (fa 12 10 ((x1233_4 : Int32).toInt).toNat).toInt = (iv 12 21).toInt ∨ ((((x1233_4 : Int32).toInt).toNat : Nat) : Int) = (iv 12 22).toInt)) := ⟨⟨by omega, by omega, by omega, by omega⟩, by omega⟩
                            have h1 : w1233_l_12_17 = caL _ _ _ _ := Int64.toInt_inj.mp hq1234_5
                            rw [caL_y hs9 hc, ← h1, ew1274, ev1273]; rfl)) (show (w1276 : Int64).toInt = (caL (cyP (fa 12 4) (fa 12 5) (fa 12 11) (fa 12 12) (a).toInt (d).toInt (b).toInt) (owY (fa 12 9) (fa 12 10) (iv 12 20).toInt (iv 12 21).toInt (iv 12 22).toInt) (fa 12 7) ((v1278 : Int32).toInt).toNat).toInt from (by
                            have := congrArg Int32.toInt (show v1236 = fa 12 9 ((x1233_4 : Int32).toInt).toNat from ev1236)
                            have := congrArg Int32.toInt (show v1249 = fa 12 10 ((x1233_4 : Int32).toInt).toNat from ev1249)
                            have := congrArg Int32.toInt (show v1263 = fa 12 4 ((x1233_4 : Int32).toInt).toNat from ev1263)
                            have := congrArg Int32.toInt (show v1266 = fa 12 5 ((x1233_4 : Int32).toInt).toNat from ev1266)
                            have y9 : ((r1269 : Int32).toInt = 1 ∧ (fa 12 11 ((x1233_4 : Int32).toInt).toNat).toInt ≤ (d : Int32).toInt ∧ ((fa 12 12 ((x1233_4 : Int32).toInt).toNat).toInt < 0 ∨ (d : Int32).toInt < (fa 12 12 ((x1233_4 : Int32).toInt).toNat).toInt)) ∨ ((r1269 : Int32).toInt = 0 ∧ ¬ ((fa 12 11 ((x1233_4 : Int32).toInt).toNat).toInt ≤ (d : Int32).toInt ∧ ((fa 12 12 ((x1233_4 : Int32).toInt).toNat).toInt < 0 ∨ (d : Int32).toInt < (fa 12 12 ((x1233_4 : Int32).toInt).toNat).toInt))) := xr1269_0
                            have hs9 : ((v1278 : Int32).toInt).toNat = ((x1233_4 : Int32).toInt).toNat + 1 := by omega
                            have hc : (((fa 12 4 ((x1233_4 : Int32).toInt).toNat).toInt = a.toInt ∧ (fa 12 5 ((x1233_4 : Int32).toInt).toNat).toInt = b.toInt ∧ (fa 12 11 ((x1233_4 : Int32).toInt).toNat).toInt ≤ d.toInt ∧ ((fa 12 12 ((x1233_4 : Int32).toInt).toNat).toInt < 0 ∨ d.toInt < (fa 12 12 ((x1233_4 : Int32).toInt).toNat).toInt)) ∧ ¬ ((fa 12 9 ((x1233_4 : Int32).toInt).toNat).toInt = (iv 12 20).toInt ∨ (fa 12 10 ((x1233_4 : Int32).toInt).toNat).toInt = (iv 12 21).toInt ∨ ((((x1233_4 : Int32).toInt).toNat : Nat) : Int) = (iv 12 22).toInt)) := ⟨⟨by omega, by omega, by omega, by omega⟩, by omega⟩
                            have h1 : w1233_l_12_18 = caL _ _ _ _ := Int64.toInt_inj.mp hq1234_6
                            rw [caL_y hs9 hc, ← h1, ew1276, ev1275]; rfl)) (show (v1277 : Int32).toInt = (caC (cyP (fa 12 4) (fa 12 5) (fa 12 11) (fa 12 12) (a).toInt (d).toInt (b).toInt) (owY (fa 12 9) (fa 12 10) (iv 12 20).toInt (iv 12 21).toInt (iv 12 22).toInt) ((v1278 : Int32).toInt).toNat).toInt from (by
                            have := congrArg Int32.toInt (show v1236 = fa 12 9 ((x1233_4 : Int32).toInt).toNat from ev1236)
                            have := congrArg Int32.toInt (show v1249 = fa 12 10 ((x1233_4 : Int32).toInt).toNat from ev1249)
                            have := congrArg Int32.toInt (show v1263 = fa 12 4 ((x1233_4 : Int32).toInt).toNat from ev1263)
                            have := congrArg Int32.toInt (show v1266 = fa 12 5 ((x1233_4 : Int32).toInt).toNat from ev1266)
                            have y9 : ((r1269 : Int32).toInt = 1 ∧ (fa 12 11 ((x1233_4 : Int32).toInt).toNat).toInt ≤ (d : Int32).toInt ∧ ((fa 12 12 ((x1233_4 : Int32).toInt).toNat).toInt < 0 ∨ (d : Int32).toInt < (fa 12 12 ((x1233_4 : Int32).toInt).toNat).toInt)) ∨ ((r1269 : Int32).toInt = 0 ∧ ¬ ((fa 12 11 ((x1233_4 : Int32).toInt).toNat).toInt ≤ (d : Int32).toInt ∧ ((fa 12 12 ((x1233_4 : Int32).toInt).toNat).toInt < 0 ∨ (d : Int32).toInt < (fa 12 12 ((x1233_4 : Int32).toInt).toNat).toInt))) := xr1269_0
                            have hs9 : ((v1278 : Int32).toInt).toNat = ((x1233_4 : Int32).toInt).toNat + 1 := by omega
                            have hc : (((fa 12 4 ((x1233_4 : Int32).toInt).toNat).toInt = a.toInt ∧ (fa 12 5 ((x1233_4 : Int32).toInt).toNat).toInt = b.toInt ∧ (fa 12 11 ((x1233_4 : Int32).toInt).toNat).toInt ≤ d.toInt ∧ ((fa 12 12 ((x1233_4 : Int32).toInt).toNat).toInt < 0 ∨ d.toInt < (fa 12 12 ((x1233_4 : Int32).toInt).toNat).toInt)) ∧ ¬ ((fa 12 9 ((x1233_4 : Int32).toInt).toNat).toInt = (iv 12 20).toInt ∨ (fa 12 10 ((x1233_4 : Int32).toInt).toNat).toInt = (iv 12 21).toInt ∨ ((((x1233_4 : Int32).toInt).toNat : Nat) : Int) = (iv 12 22).toInt)) := ⟨⟨by omega, by omega, by omega, by omega⟩, by omega⟩
                            have h1 : w1233_i_12_19 = caC _ _ _ := Int32.toInt_inj.mp hq1234_7
                            rw [caC_y hs9 hc, ← h1, ev1277])) (show (v1278 : Int32).toInt ≤ ((iv 12 3) : Int32).toInt from by omega) (by omega) _ _ ls hP hD hS (lv_sub hl [0, 2, 3, 4, 5] rfl)
            · have fc1262 := z_eq (rfl : (x1233_4).toInt = _) (rfl : ((iv 12 22)).toInt = _) c1262
              refine lv_iconst (v := 1) hx hb dX12_sumUp_64 (by decide) ?_
              refine lv_goto (tgt := 69) hx hb dX12_sumUp_65 (by decide) ?_
              refine lv_istore (lv' := [(5, .int 1), (4, .int x1233_4), (0, .ref h), (1, .int a), (2, .int b), (3, .int d)]) hx hb dX12_sumUp_69 hl (by decide) rfl (fun ls hl => ?_)
              refine lv_aload_n hx hb dX12_sumUp_71 rfl (lv_at hl 2 rfl) ?_
              refine gM_12_4 hx hb ht hown hK hP m_1143 dX12_sumUp_72 ?_
              refine lv_iload hx hb dX12_sumUp_75 (lv_at hl 1 rfl) ?_
              refine lM_12_4 hx hb hK hP (f := (fa 12 4)) rfl (vp_in_iff.mpr ⟨by omega, by omega⟩) dX12_sumUp_77 ?_
              refine lv_topi (fun v1279 ev1279 => ?_)
              refine lv_iload_n hx hb dX12_sumUp_78 rfl (lv_at hl 3 rfl) ?_
              refine lv_icmp_ne (tgt := 152) hx hb dX12_sumUp_79 (by decide) (fun c1280 => ?_) (fun c1280 => ?_)
              · have fc1280 := z_ne (rfl : (v1279).toInt = _) (rfl : (a).toInt = _) c1280
                obtain ⟨v1281, ev1281⟩ : ∃ y : Int32, y = x1233_4 + 1 := ⟨_, rfl⟩
                have tv1281 := z_add ev1281 rfl (by decide : (1 : Int32).toInt = 1) (by omega) (by omega)
                refine lv_iinc (v := v1281) (lv' := [(4, .int v1281), (5, .int 1), (0, .ref h), (1, .int a), (2, .int b), (3, .int d)]) hx hb dX12_sumUp_152 hl (k := 1) rfl (by rw [ev1281]; rfl) (by decide) rfl (fun ls hl => ?_)
                refine lv_goto (tgt := 18) hx hb dX12_sumUp_155 (by decide) ?_
                exact ih1234 v1281 w1233_i_12_19 w1233_l_12_17 w1233_l_12_18 ⟨by omega, by omega⟩ (show 0 ≤ (w1233_l_12_18 : Int64).toInt from by omega) (show (w1233_l_12_18 : Int64).toInt ≤ 9999 * (v1281 : Int32).toInt from by omega) (show 100 * (w1233_i_12_19 : Int32).toInt ≤ (w1233_l_12_18 : Int64).toInt from by omega) (show 0 ≤ (w1233_i_12_19 : Int32).toInt from by omega) (show (w1233_i_12_19 : Int32).toInt ≤ (v1281 : Int32).toInt from by omega) (show (w1233_l_12_17 : Int64).toInt = (caL (cyP (fa 12 4) (fa 12 5) (fa 12 11) (fa 12 12) (a).toInt (d).toInt (b).toInt) (owY (fa 12 9) (fa 12 10) (iv 12 20).toInt (iv 12 21).toInt (iv 12 22).toInt) (fa 12 8) ((v1281 : Int32).toInt).toNat).toInt from (by
                      have := congrArg Int32.toInt (show v1236 = fa 12 9 ((x1233_4 : Int32).toInt).toNat from ev1236)
                      have := congrArg Int32.toInt (show v1249 = fa 12 10 ((x1233_4 : Int32).toInt).toNat from ev1249)
                      have := congrArg Int32.toInt (show v1279 = fa 12 4 ((x1233_4 : Int32).toInt).toNat from ev1279)
                      have hs9 : ((v1281 : Int32).toInt).toNat = ((x1233_4 : Int32).toInt).toNat + 1 := by omega
                      have hc : ¬ (((fa 12 4 ((x1233_4 : Int32).toInt).toNat).toInt = a.toInt ∧ (fa 12 5 ((x1233_4 : Int32).toInt).toNat).toInt = b.toInt ∧ (fa 12 11 ((x1233_4 : Int32).toInt).toNat).toInt ≤ d.toInt ∧ ((fa 12 12 ((x1233_4 : Int32).toInt).toNat).toInt < 0 ∨ d.toInt < (fa 12 12 ((x1233_4 : Int32).toInt).toNat).toInt)) ∧ ¬ ((fa 12 9 ((x1233_4 : Int32).toInt).toNat).toInt = (iv 12 20).toInt ∨ (fa 12 10 ((x1233_4 : Int32).toInt).toNat).toInt = (iv 12 21).toInt ∨ ((((x1233_4 : Int32).toInt).toNat : Nat) : Int) = (iv 12 22).toInt)) := by omega
                      rw [caL_n hs9 hc]; exact hq1234_5)) (show (w1233_l_12_18 : Int64).toInt = (caL (cyP (fa 12 4) (fa 12 5) (fa 12 11) (fa 12 12) (a).toInt (d).toInt (b).toInt) (owY (fa 12 9) (fa 12 10) (iv 12 20).toInt (iv 12 21).toInt (iv 12 22).toInt) (fa 12 7) ((v1281 : Int32).toInt).toNat).toInt from (by
                      have := congrArg Int32.toInt (show v1236 = fa 12 9 ((x1233_4 : Int32).toInt).toNat from ev1236)
                      have := congrArg Int32.toInt (show v1249 = fa 12 10 ((x1233_4 : Int32).toInt).toNat from ev1249)
                      have := congrArg Int32.toInt (show v1279 = fa 12 4 ((x1233_4 : Int32).toInt).toNat from ev1279)
                      have hs9 : ((v1281 : Int32).toInt).toNat = ((x1233_4 : Int32).toInt).toNat + 1 := by omega
                      have hc : ¬ (((fa 12 4 ((x1233_4 : Int32).toInt).toNat).toInt = a.toInt ∧ (fa 12 5 ((x1233_4 : Int32).toInt).toNat).toInt = b.toInt ∧ (fa 12 11 ((x1233_4 : Int32).toInt).toNat).toInt ≤ d.toInt ∧ ((fa 12 12 ((x1233_4 : Int32).toInt).toNat).toInt < 0 ∨ d.toInt < (fa 12 12 ((x1233_4 : Int32).toInt).toNat).toInt)) ∧ ¬ ((fa 12 9 ((x1233_4 : Int32).toInt).toNat).toInt = (iv 12 20).toInt ∨ (fa 12 10 ((x1233_4 : Int32).toInt).toNat).toInt = (iv 12 21).toInt ∨ ((((x1233_4 : Int32).toInt).toNat : Nat) : Int) = (iv 12 22).toInt)) := by omega
                      rw [caL_n hs9 hc]; exact hq1234_6)) (show (w1233_i_12_19 : Int32).toInt = (caC (cyP (fa 12 4) (fa 12 5) (fa 12 11) (fa 12 12) (a).toInt (d).toInt (b).toInt) (owY (fa 12 9) (fa 12 10) (iv 12 20).toInt (iv 12 21).toInt (iv 12 22).toInt) ((v1281 : Int32).toInt).toNat).toInt from (by
                      have := congrArg Int32.toInt (show v1236 = fa 12 9 ((x1233_4 : Int32).toInt).toNat from ev1236)
                      have := congrArg Int32.toInt (show v1249 = fa 12 10 ((x1233_4 : Int32).toInt).toNat from ev1249)
                      have := congrArg Int32.toInt (show v1279 = fa 12 4 ((x1233_4 : Int32).toInt).toNat from ev1279)
                      have hs9 : ((v1281 : Int32).toInt).toNat = ((x1233_4 : Int32).toInt).toNat + 1 := by omega
                      have hc : ¬ (((fa 12 4 ((x1233_4 : Int32).toInt).toNat).toInt = a.toInt ∧ (fa 12 5 ((x1233_4 : Int32).toInt).toNat).toInt = b.toInt ∧ (fa 12 11 ((x1233_4 : Int32).toInt).toNat).toInt ≤ d.toInt ∧ ((fa 12 12 ((x1233_4 : Int32).toInt).toNat).toInt < 0 ∨ d.toInt < (fa 12 12 ((x1233_4 : Int32).toInt).toNat).toInt)) ∧ ¬ ((fa 12 9 ((x1233_4 : Int32).toInt).toNat).toInt = (iv 12 20).toInt ∨ (fa 12 10 ((x1233_4 : Int32).toInt).toNat).toInt = (iv 12 21).toInt ∨ ((((x1233_4 : Int32).toInt).toNat : Nat) : Int) = (iv 12 22).toInt)) := by omega
                      rw [caC_n hs9 hc]; exact hq1234_7)) (show (v1281 : Int32).toInt ≤ ((iv 12 3) : Int32).toInt from by omega) (by omega) _ _ ls hP hD hS (lv_sub hl [0, 2, 3, 4, 5] rfl)
              · have fc1280 := z_eq (rfl : (v1279).toInt = _) (rfl : (a).toInt = _) c1280
                refine lv_aload_n hx hb dX12_sumUp_82 rfl (lv_at hl 2 rfl) ?_
                refine gM_12_5 hx hb ht hown hK hP m_1144 dX12_sumUp_83 ?_
                refine lv_iload hx hb dX12_sumUp_86 (lv_at hl 1 rfl) ?_
                refine lM_12_5 hx hb hK hP (f := (fa 12 5)) rfl (vp_in_iff.mpr ⟨by omega, by omega⟩) dX12_sumUp_88 ?_
                refine lv_topi (fun v1282 ev1282 => ?_)
                refine lv_iload_n hx hb dX12_sumUp_89 rfl (lv_at hl 4 rfl) ?_
                refine lv_icmp_ne (tgt := 152) hx hb dX12_sumUp_90 (by decide) (fun c1283 => ?_) (fun c1283 => ?_)
                · have fc1283 := z_ne (rfl : (v1282).toInt = _) (rfl : (b).toInt = _) c1283
                  obtain ⟨v1284, ev1284⟩ : ∃ y : Int32, y = x1233_4 + 1 := ⟨_, rfl⟩
                  have tv1284 := z_add ev1284 rfl (by decide : (1 : Int32).toInt = 1) (by omega) (by omega)
                  refine lv_iinc (v := v1284) (lv' := [(4, .int v1284), (5, .int 1), (0, .ref h), (1, .int a), (2, .int b), (3, .int d)]) hx hb dX12_sumUp_152 hl (k := 1) rfl (by rw [ev1284]; rfl) (by decide) rfl (fun ls hl => ?_)
                  refine lv_goto (tgt := 18) hx hb dX12_sumUp_155 (by decide) ?_
                  exact ih1234 v1284 w1233_i_12_19 w1233_l_12_17 w1233_l_12_18 ⟨by omega, by omega⟩ (show 0 ≤ (w1233_l_12_18 : Int64).toInt from by omega) (show (w1233_l_12_18 : Int64).toInt ≤ 9999 * (v1284 : Int32).toInt from by omega) (show 100 * (w1233_i_12_19 : Int32).toInt ≤ (w1233_l_12_18 : Int64).toInt from by omega) (show 0 ≤ (w1233_i_12_19 : Int32).toInt from by omega) (show (w1233_i_12_19 : Int32).toInt ≤ (v1284 : Int32).toInt from by omega) (show (w1233_l_12_17 : Int64).toInt = (caL (cyP (fa 12 4) (fa 12 5) (fa 12 11) (fa 12 12) (a).toInt (d).toInt (b).toInt) (owY (fa 12 9) (fa 12 10) (iv 12 20).toInt (iv 12 21).toInt (iv 12 22).toInt) (fa 12 8) ((v1284 : Int32).toInt).toNat).toInt from (by
                        have := congrArg Int32.toInt (show v1236 = fa 12 9 ((x1233_4 : Int32).toInt).toNat from ev1236)
                        have := congrArg Int32.toInt (show v1249 = fa 12 10 ((x1233_4 : Int32).toInt).toNat from ev1249)
                        have := congrArg Int32.toInt (show v1279 = fa 12 4 ((x1233_4 : Int32).toInt).toNat from ev1279)
                        have := congrArg Int32.toInt (show v1282 = fa 12 5 ((x1233_4 : Int32).toInt).toNat from ev1282)
                        have hs9 : ((v1284 : Int32).toInt).toNat = ((x1233_4 : Int32).toInt).toNat + 1 := by omega
                        have hc : ¬ (((fa 12 4 ((x1233_4 : Int32).toInt).toNat).toInt = a.toInt ∧ (fa 12 5 ((x1233_4 : Int32).toInt).toNat).toInt = b.toInt ∧ (fa 12 11 ((x1233_4 : Int32).toInt).toNat).toInt ≤ d.toInt ∧ ((fa 12 12 ((x1233_4 : Int32).toInt).toNat).toInt < 0 ∨ d.toInt < (fa 12 12 ((x1233_4 : Int32).toInt).toNat).toInt)) ∧ ¬ ((fa 12 9 ((x1233_4 : Int32).toInt).toNat).toInt = (iv 12 20).toInt ∨ (fa 12 10 ((x1233_4 : Int32).toInt).toNat).toInt = (iv 12 21).toInt ∨ ((((x1233_4 : Int32).toInt).toNat : Nat) : Int) = (iv 12 22).toInt)) := by omega
                        rw [caL_n hs9 hc]; exact hq1234_5)) (show (w1233_l_12_18 : Int64).toInt = (caL (cyP (fa 12 4) (fa 12 5) (fa 12 11) (fa 12 12) (a).toInt (d).toInt (b).toInt) (owY (fa 12 9) (fa 12 10) (iv 12 20).toInt (iv 12 21).toInt (iv 12 22).toInt) (fa 12 7) ((v1284 : Int32).toInt).toNat).toInt from (by
                        have := congrArg Int32.toInt (show v1236 = fa 12 9 ((x1233_4 : Int32).toInt).toNat from ev1236)
                        have := congrArg Int32.toInt (show v1249 = fa 12 10 ((x1233_4 : Int32).toInt).toNat from ev1249)
                        have := congrArg Int32.toInt (show v1279 = fa 12 4 ((x1233_4 : Int32).toInt).toNat from ev1279)
                        have := congrArg Int32.toInt (show v1282 = fa 12 5 ((x1233_4 : Int32).toInt).toNat from ev1282)
                        have hs9 : ((v1284 : Int32).toInt).toNat = ((x1233_4 : Int32).toInt).toNat + 1 := by omega
                        have hc : ¬ (((fa 12 4 ((x1233_4 : Int32).toInt).toNat).toInt = a.toInt ∧ (fa 12 5 ((x1233_4 : Int32).toInt).toNat).toInt = b.toInt ∧ (fa 12 11 ((x1233_4 : Int32).toInt).toNat).toInt ≤ d.toInt ∧ ((fa 12 12 ((x1233_4 : Int32).toInt).toNat).toInt < 0 ∨ d.toInt < (fa 12 12 ((x1233_4 : Int32).toInt).toNat).toInt)) ∧ ¬ ((fa 12 9 ((x1233_4 : Int32).toInt).toNat).toInt = (iv 12 20).toInt ∨ (fa 12 10 ((x1233_4 : Int32).toInt).toNat).toInt = (iv 12 21).toInt ∨ ((((x1233_4 : Int32).toInt).toNat : Nat) : Int) = (iv 12 22).toInt)) := by omega
                        rw [caL_n hs9 hc]; exact hq1234_6)) (show (w1233_i_12_19 : Int32).toInt = (caC (cyP (fa 12 4) (fa 12 5) (fa 12 11) (fa 12 12) (a).toInt (d).toInt (b).toInt) (owY (fa 12 9) (fa 12 10) (iv 12 20).toInt (iv 12 21).toInt (iv 12 22).toInt) ((v1284 : Int32).toInt).toNat).toInt from (by
                        have := congrArg Int32.toInt (show v1236 = fa 12 9 ((x1233_4 : Int32).toInt).toNat from ev1236)
                        have := congrArg Int32.toInt (show v1249 = fa 12 10 ((x1233_4 : Int32).toInt).toNat from ev1249)
                        have := congrArg Int32.toInt (show v1279 = fa 12 4 ((x1233_4 : Int32).toInt).toNat from ev1279)
                        have := congrArg Int32.toInt (show v1282 = fa 12 5 ((x1233_4 : Int32).toInt).toNat from ev1282)
                        have hs9 : ((v1284 : Int32).toInt).toNat = ((x1233_4 : Int32).toInt).toNat + 1 := by omega
                        have hc : ¬ (((fa 12 4 ((x1233_4 : Int32).toInt).toNat).toInt = a.toInt ∧ (fa 12 5 ((x1233_4 : Int32).toInt).toNat).toInt = b.toInt ∧ (fa 12 11 ((x1233_4 : Int32).toInt).toNat).toInt ≤ d.toInt ∧ ((fa 12 12 ((x1233_4 : Int32).toInt).toNat).toInt < 0 ∨ d.toInt < (fa 12 12 ((x1233_4 : Int32).toInt).toNat).toInt)) ∧ ¬ ((fa 12 9 ((x1233_4 : Int32).toInt).toNat).toInt = (iv 12 20).toInt ∨ (fa 12 10 ((x1233_4 : Int32).toInt).toNat).toInt = (iv 12 21).toInt ∨ ((((x1233_4 : Int32).toInt).toNat : Nat) : Int) = (iv 12 22).toInt)) := by omega
                        rw [caC_n hs9 hc]; exact hq1234_7)) (show (v1284 : Int32).toInt ≤ ((iv 12 3) : Int32).toInt from by omega) (by omega) _ _ ls hP hD hS (lv_sub hl [0, 2, 3, 4, 5] rfl)
                · have fc1283 := z_eq (rfl : (v1282).toInt = _) (rfl : (b).toInt = _) c1283
                  refine lv_aload_n hx hb dX12_sumUp_93 rfl (lv_at hl 2 rfl) ?_
                  refine lv_iload hx hb dX12_sumUp_94 (lv_at hl 1 rfl) ?_
                  refine lv_iload_n hx hb dX12_sumUp_96 rfl (lv_at hl 5 rfl) ?_
                  refine vp_callSi (W.runV (As := [.int x1233_4, .int d]) (rest := []) ⟨hx, hb, hml, hown, ht⟩ (c_X12_isThere_x l dC dI h g ca (u2 iv 12 19 w1233_i_12_19) (u2 (u2 lv 12 17 w1233_l_12_17) 12 18 w1233_l_12_18) fa la (IX_i (c := 12) (k := 19) hI (full_i _)) x1233_4 d ⟨by omega, by omega⟩) (kV 2 ht m_1438 m_1440 m_46 m_89 m_1441 rfl rfl hd_X12_isThere_v ⟨Nat.le_of_ble_eq_true rfl, Nat.le_of_ble_eq_true rfl⟩) (vR hP hK (rM_12 hK hP)) rfl rfl hl.1 rfl (lv_room (Nat.le_of_ble_eq_true rfl)) dX12_sumUp_97 ⟨Nat.le_of_ble_eq_true rfl, Nat.le_of_ble_eq_true rfl⟩) (fun r1285 hr1285 => ?_)
                  obtain ⟨hr1285, xr1285_0⟩ := hr1285
                  have xr1285_0 : (((r1285 : Int32).toInt = 1 ∧ ((fa 12 11) (x1233_4 : Int32).toNatClampNeg).toInt ≤ (d : Int32).toInt ∧ (((fa 12 12) (x1233_4 : Int32).toNatClampNeg).toInt < 0 ∨ (d : Int32).toInt < ((fa 12 12) (x1233_4 : Int32).toNatClampNeg).toInt)) ∨ ((r1285 : Int32).toInt = 0 ∧ ¬ (((fa 12 11) (x1233_4 : Int32).toNatClampNeg).toInt ≤ (d : Int32).toInt ∧ (((fa 12 12) (x1233_4 : Int32).toNatClampNeg).toInt < 0 ∨ (d : Int32).toInt < ((fa 12 12) (x1233_4 : Int32).toNatClampNeg).toInt)))) := xr1285_0
                  refine lv_if_eq (tgt := 152) hx hb dX12_sumUp_100 (by decide) (fun c1286 => ?_) (fun c1286 => ?_)
                  · have fc1286 := z_eq (rfl : (r1285).toInt = _) (by decide : (0 : Int32).toInt = 0) c1286
                    obtain ⟨v1287, ev1287⟩ : ∃ y : Int32, y = x1233_4 + 1 := ⟨_, rfl⟩
                    have tv1287 := z_add ev1287 rfl (by decide : (1 : Int32).toInt = 1) (by omega) (by omega)
                    refine lv_iinc (v := v1287) (lv' := [(4, .int v1287), (5, .int 1), (0, .ref h), (1, .int a), (2, .int b), (3, .int d)]) hx hb dX12_sumUp_152 hl (k := 1) rfl (by rw [ev1287]; rfl) (by decide) rfl (fun ls hl => ?_)
                    refine lv_goto (tgt := 18) hx hb dX12_sumUp_155 (by decide) ?_
                    exact ih1234 v1287 w1233_i_12_19 w1233_l_12_17 w1233_l_12_18 ⟨by omega, by omega⟩ (show 0 ≤ (w1233_l_12_18 : Int64).toInt from by omega) (show (w1233_l_12_18 : Int64).toInt ≤ 9999 * (v1287 : Int32).toInt from by omega) (show 100 * (w1233_i_12_19 : Int32).toInt ≤ (w1233_l_12_18 : Int64).toInt from by omega) (show 0 ≤ (w1233_i_12_19 : Int32).toInt from by omega) (show (w1233_i_12_19 : Int32).toInt ≤ (v1287 : Int32).toInt from by omega) (show (w1233_l_12_17 : Int64).toInt = (caL (cyP (fa 12 4) (fa 12 5) (fa 12 11) (fa 12 12) (a).toInt (d).toInt (b).toInt) (owY (fa 12 9) (fa 12 10) (iv 12 20).toInt (iv 12 21).toInt (iv 12 22).toInt) (fa 12 8) ((v1287 : Int32).toInt).toNat).toInt from (by
                          have := congrArg Int32.toInt (show v1236 = fa 12 9 ((x1233_4 : Int32).toInt).toNat from ev1236)
                          have := congrArg Int32.toInt (show v1249 = fa 12 10 ((x1233_4 : Int32).toInt).toNat from ev1249)
                          have := congrArg Int32.toInt (show v1279 = fa 12 4 ((x1233_4 : Int32).toInt).toNat from ev1279)
                          have := congrArg Int32.toInt (show v1282 = fa 12 5 ((x1233_4 : Int32).toInt).toNat from ev1282)
                          have y9 : ((r1285 : Int32).toInt = 1 ∧ (fa 12 11 ((x1233_4 : Int32).toInt).toNat).toInt ≤ (d : Int32).toInt ∧ ((fa 12 12 ((x1233_4 : Int32).toInt).toNat).toInt < 0 ∨ (d : Int32).toInt < (fa 12 12 ((x1233_4 : Int32).toInt).toNat).toInt)) ∨ ((r1285 : Int32).toInt = 0 ∧ ¬ ((fa 12 11 ((x1233_4 : Int32).toInt).toNat).toInt ≤ (d : Int32).toInt ∧ ((fa 12 12 ((x1233_4 : Int32).toInt).toNat).toInt < 0 ∨ (d : Int32).toInt < (fa 12 12 ((x1233_4 : Int32).toInt).toNat).toInt))) := xr1285_0
                          have hs9 : ((v1287 : Int32).toInt).toNat = ((x1233_4 : Int32).toInt).toNat + 1 := by omega
                          have hc : ¬ (((fa 12 4 ((x1233_4 : Int32).toInt).toNat).toInt = a.toInt ∧ (fa 12 5 ((x1233_4 : Int32).toInt).toNat).toInt = b.toInt ∧ (fa 12 11 ((x1233_4 : Int32).toInt).toNat).toInt ≤ d.toInt ∧ ((fa 12 12 ((x1233_4 : Int32).toInt).toNat).toInt < 0 ∨ d.toInt < (fa 12 12 ((x1233_4 : Int32).toInt).toNat).toInt)) ∧ ¬ ((fa 12 9 ((x1233_4 : Int32).toInt).toNat).toInt = (iv 12 20).toInt ∨ (fa 12 10 ((x1233_4 : Int32).toInt).toNat).toInt = (iv 12 21).toInt ∨ ((((x1233_4 : Int32).toInt).toNat : Nat) : Int) = (iv 12 22).toInt)) := by omega
                          rw [caL_n hs9 hc]; exact hq1234_5)) (show (w1233_l_12_18 : Int64).toInt = (caL (cyP (fa 12 4) (fa 12 5) (fa 12 11) (fa 12 12) (a).toInt (d).toInt (b).toInt) (owY (fa 12 9) (fa 12 10) (iv 12 20).toInt (iv 12 21).toInt (iv 12 22).toInt) (fa 12 7) ((v1287 : Int32).toInt).toNat).toInt from (by
                          have := congrArg Int32.toInt (show v1236 = fa 12 9 ((x1233_4 : Int32).toInt).toNat from ev1236)
                          have := congrArg Int32.toInt (show v1249 = fa 12 10 ((x1233_4 : Int32).toInt).toNat from ev1249)
                          have := congrArg Int32.toInt (show v1279 = fa 12 4 ((x1233_4 : Int32).toInt).toNat from ev1279)
                          have := congrArg Int32.toInt (show v1282 = fa 12 5 ((x1233_4 : Int32).toInt).toNat from ev1282)
                          have y9 : ((r1285 : Int32).toInt = 1 ∧ (fa 12 11 ((x1233_4 : Int32).toInt).toNat).toInt ≤ (d : Int32).toInt ∧ ((fa 12 12 ((x1233_4 : Int32).toInt).toNat).toInt < 0 ∨ (d : Int32).toInt < (fa 12 12 ((x1233_4 : Int32).toInt).toNat).toInt)) ∨ ((r1285 : Int32).toInt = 0 ∧ ¬ ((fa 12 11 ((x1233_4 : Int32).toInt).toNat).toInt ≤ (d : Int32).toInt ∧ ((fa 12 12 ((x1233_4 : Int32).toInt).toNat).toInt < 0 ∨ (d : Int32).toInt < (fa 12 12 ((x1233_4 : Int32).toInt).toNat).toInt))) := xr1285_0
                          have hs9 : ((v1287 : Int32).toInt).toNat = ((x1233_4 : Int32).toInt).toNat + 1 := by omega
                          have hc : ¬ (((fa 12 4 ((x1233_4 : Int32).toInt).toNat).toInt = a.toInt ∧ (fa 12 5 ((x1233_4 : Int32).toInt).toNat).toInt = b.toInt ∧ (fa 12 11 ((x1233_4 : Int32).toInt).toNat).toInt ≤ d.toInt ∧ ((fa 12 12 ((x1233_4 : Int32).toInt).toNat).toInt < 0 ∨ d.toInt < (fa 12 12 ((x1233_4 : Int32).toInt).toNat).toInt)) ∧ ¬ ((fa 12 9 ((x1233_4 : Int32).toInt).toNat).toInt = (iv 12 20).toInt ∨ (fa 12 10 ((x1233_4 : Int32).toInt).toNat).toInt = (iv 12 21).toInt ∨ ((((x1233_4 : Int32).toInt).toNat : Nat) : Int) = (iv 12 22).toInt)) := by omega
                          rw [caL_n hs9 hc]; exact hq1234_6)) (show (w1233_i_12_19 : Int32).toInt = (caC (cyP (fa 12 4) (fa 12 5) (fa 12 11) (fa 12 12) (a).toInt (d).toInt (b).toInt) (owY (fa 12 9) (fa 12 10) (iv 12 20).toInt (iv 12 21).toInt (iv 12 22).toInt) ((v1287 : Int32).toInt).toNat).toInt from (by
                          have := congrArg Int32.toInt (show v1236 = fa 12 9 ((x1233_4 : Int32).toInt).toNat from ev1236)
                          have := congrArg Int32.toInt (show v1249 = fa 12 10 ((x1233_4 : Int32).toInt).toNat from ev1249)
                          have := congrArg Int32.toInt (show v1279 = fa 12 4 ((x1233_4 : Int32).toInt).toNat from ev1279)
                          have := congrArg Int32.toInt (show v1282 = fa 12 5 ((x1233_4 : Int32).toInt).toNat from ev1282)
                          have y9 : ((r1285 : Int32).toInt = 1 ∧ (fa 12 11 ((x1233_4 : Int32).toInt).toNat).toInt ≤ (d : Int32).toInt ∧ ((fa 12 12 ((x1233_4 : Int32).toInt).toNat).toInt < 0 ∨ (d : Int32).toInt < (fa 12 12 ((x1233_4 : Int32).toInt).toNat).toInt)) ∨ ((r1285 : Int32).toInt = 0 ∧ ¬ ((fa 12 11 ((x1233_4 : Int32).toInt).toNat).toInt ≤ (d : Int32).toInt ∧ ((fa 12 12 ((x1233_4 : Int32).toInt).toNat).toInt < 0 ∨ (d : Int32).toInt < (fa 12 12 ((x1233_4 : Int32).toInt).toNat).toInt))) := xr1285_0
                          have hs9 : ((v1287 : Int32).toInt).toNat = ((x1233_4 : Int32).toInt).toNat + 1 := by omega
                          have hc : ¬ (((fa 12 4 ((x1233_4 : Int32).toInt).toNat).toInt = a.toInt ∧ (fa 12 5 ((x1233_4 : Int32).toInt).toNat).toInt = b.toInt ∧ (fa 12 11 ((x1233_4 : Int32).toInt).toNat).toInt ≤ d.toInt ∧ ((fa 12 12 ((x1233_4 : Int32).toInt).toNat).toInt < 0 ∨ d.toInt < (fa 12 12 ((x1233_4 : Int32).toInt).toNat).toInt)) ∧ ¬ ((fa 12 9 ((x1233_4 : Int32).toInt).toNat).toInt = (iv 12 20).toInt ∨ (fa 12 10 ((x1233_4 : Int32).toInt).toNat).toInt = (iv 12 21).toInt ∨ ((((x1233_4 : Int32).toInt).toNat : Nat) : Int) = (iv 12 22).toInt)) := by omega
                          rw [caC_n hs9 hc]; exact hq1234_7)) (show (v1287 : Int32).toInt ≤ ((iv 12 3) : Int32).toInt from by omega) (by omega) _ _ ls hP hD hS (lv_sub hl [0, 2, 3, 4, 5] rfl)
                  · have fc1286 := z_ne (rfl : (r1285).toInt = _) (by decide : (0 : Int32).toInt = 0) c1286
                    refine lv_iload hx hb dX12_sumUp_103 (lv_at hl 0 rfl) ?_
                    refine lv_if_ne (tgt := 152) hx hb dX12_sumUp_105 (by decide) (fun c1288 => ?_) (fun c1288 => ?_)
                    · skip
                      obtain ⟨v1289, ev1289⟩ : ∃ y : Int32, y = x1233_4 + 1 := ⟨_, rfl⟩
                      have tv1289 := z_add ev1289 rfl (by decide : (1 : Int32).toInt = 1) (by omega) (by omega)
                      refine lv_iinc (v := v1289) (lv' := [(4, .int v1289), (5, .int 1), (0, .ref h), (1, .int a), (2, .int b), (3, .int d)]) hx hb dX12_sumUp_152 hl (k := 1) rfl (by rw [ev1289]; rfl) (by decide) rfl (fun ls hl => ?_)
                      refine lv_goto (tgt := 18) hx hb dX12_sumUp_155 (by decide) ?_
                      exact ih1234 v1289 w1233_i_12_19 w1233_l_12_17 w1233_l_12_18 ⟨by omega, by omega⟩ (show 0 ≤ (w1233_l_12_18 : Int64).toInt from by omega) (show (w1233_l_12_18 : Int64).toInt ≤ 9999 * (v1289 : Int32).toInt from by omega) (show 100 * (w1233_i_12_19 : Int32).toInt ≤ (w1233_l_12_18 : Int64).toInt from by omega) (show 0 ≤ (w1233_i_12_19 : Int32).toInt from by omega) (show (w1233_i_12_19 : Int32).toInt ≤ (v1289 : Int32).toInt from by omega) (show (w1233_l_12_17 : Int64).toInt = (caL (cyP (fa 12 4) (fa 12 5) (fa 12 11) (fa 12 12) (a).toInt (d).toInt (b).toInt) (owY (fa 12 9) (fa 12 10) (iv 12 20).toInt (iv 12 21).toInt (iv 12 22).toInt) (fa 12 8) ((v1289 : Int32).toInt).toNat).toInt from (by
                            have := congrArg Int32.toInt (show v1236 = fa 12 9 ((x1233_4 : Int32).toInt).toNat from ev1236)
                            have := congrArg Int32.toInt (show v1249 = fa 12 10 ((x1233_4 : Int32).toInt).toNat from ev1249)
                            have := congrArg Int32.toInt (show v1279 = fa 12 4 ((x1233_4 : Int32).toInt).toNat from ev1279)
                            have := congrArg Int32.toInt (show v1282 = fa 12 5 ((x1233_4 : Int32).toInt).toNat from ev1282)
                            have y9 : ((r1285 : Int32).toInt = 1 ∧ (fa 12 11 ((x1233_4 : Int32).toInt).toNat).toInt ≤ (d : Int32).toInt ∧ ((fa 12 12 ((x1233_4 : Int32).toInt).toNat).toInt < 0 ∨ (d : Int32).toInt < (fa 12 12 ((x1233_4 : Int32).toInt).toNat).toInt)) ∨ ((r1285 : Int32).toInt = 0 ∧ ¬ ((fa 12 11 ((x1233_4 : Int32).toInt).toNat).toInt ≤ (d : Int32).toInt ∧ ((fa 12 12 ((x1233_4 : Int32).toInt).toNat).toInt < 0 ∨ (d : Int32).toInt < (fa 12 12 ((x1233_4 : Int32).toInt).toNat).toInt))) := xr1285_0
                            have hs9 : ((v1289 : Int32).toInt).toNat = ((x1233_4 : Int32).toInt).toNat + 1 := by omega
                            have hc : ¬ (((fa 12 4 ((x1233_4 : Int32).toInt).toNat).toInt = a.toInt ∧ (fa 12 5 ((x1233_4 : Int32).toInt).toNat).toInt = b.toInt ∧ (fa 12 11 ((x1233_4 : Int32).toInt).toNat).toInt ≤ d.toInt ∧ ((fa 12 12 ((x1233_4 : Int32).toInt).toNat).toInt < 0 ∨ d.toInt < (fa 12 12 ((x1233_4 : Int32).toInt).toNat).toInt)) ∧ ¬ ((fa 12 9 ((x1233_4 : Int32).toInt).toNat).toInt = (iv 12 20).toInt ∨ (fa 12 10 ((x1233_4 : Int32).toInt).toNat).toInt = (iv 12 21).toInt ∨ ((((x1233_4 : Int32).toInt).toNat : Nat) : Int) = (iv 12 22).toInt)) := by omega
                            rw [caL_n hs9 hc]; exact hq1234_5)) (show (w1233_l_12_18 : Int64).toInt = (caL (cyP (fa 12 4) (fa 12 5) (fa 12 11) (fa 12 12) (a).toInt (d).toInt (b).toInt) (owY (fa 12 9) (fa 12 10) (iv 12 20).toInt (iv 12 21).toInt (iv 12 22).toInt) (fa 12 7) ((v1289 : Int32).toInt).toNat).toInt from (by
                            have := congrArg Int32.toInt (show v1236 = fa 12 9 ((x1233_4 : Int32).toInt).toNat from ev1236)
                            have := congrArg Int32.toInt (show v1249 = fa 12 10 ((x1233_4 : Int32).toInt).toNat from ev1249)
                            have := congrArg Int32.toInt (show v1279 = fa 12 4 ((x1233_4 : Int32).toInt).toNat from ev1279)
                            have := congrArg Int32.toInt (show v1282 = fa 12 5 ((x1233_4 : Int32).toInt).toNat from ev1282)
                            have y9 : ((r1285 : Int32).toInt = 1 ∧ (fa 12 11 ((x1233_4 : Int32).toInt).toNat).toInt ≤ (d : Int32).toInt ∧ ((fa 12 12 ((x1233_4 : Int32).toInt).toNat).toInt < 0 ∨ (d : Int32).toInt < (fa 12 12 ((x1233_4 : Int32).toInt).toNat).toInt)) ∨ ((r1285 : Int32).toInt = 0 ∧ ¬ ((fa 12 11 ((x1233_4 : Int32).toInt).toNat).toInt ≤ (d : Int32).toInt ∧ ((fa 12 12 ((x1233_4 : Int32).toInt).toNat).toInt < 0 ∨ (d : Int32).toInt < (fa 12 12 ((x1233_4 : Int32).toInt).toNat).toInt))) := xr1285_0
                            have hs9 : ((v1289 : Int32).toInt).toNat = ((x1233_4 : Int32).toInt).toNat + 1 := by omega
                            have hc : ¬ (((fa 12 4 ((x1233_4 : Int32).toInt).toNat).toInt = a.toInt ∧ (fa 12 5 ((x1233_4 : Int32).toInt).toNat).toInt = b.toInt ∧ (fa 12 11 ((x1233_4 : Int32).toInt).toNat).toInt ≤ d.toInt ∧ ((fa 12 12 ((x1233_4 : Int32).toInt).toNat).toInt < 0 ∨ d.toInt < (fa 12 12 ((x1233_4 : Int32).toInt).toNat).toInt)) ∧ ¬ ((fa 12 9 ((x1233_4 : Int32).toInt).toNat).toInt = (iv 12 20).toInt ∨ (fa 12 10 ((x1233_4 : Int32).toInt).toNat).toInt = (iv 12 21).toInt ∨ ((((x1233_4 : Int32).toInt).toNat : Nat) : Int) = (iv 12 22).toInt)) := by omega
                            rw [caL_n hs9 hc]; exact hq1234_6)) (show (w1233_i_12_19 : Int32).toInt = (caC (cyP (fa 12 4) (fa 12 5) (fa 12 11) (fa 12 12) (a).toInt (d).toInt (b).toInt) (owY (fa 12 9) (fa 12 10) (iv 12 20).toInt (iv 12 21).toInt (iv 12 22).toInt) ((v1289 : Int32).toInt).toNat).toInt from (by
                            have := congrArg Int32.toInt (show v1236 = fa 12 9 ((x1233_4 : Int32).toInt).toNat from ev1236)
                            have := congrArg Int32.toInt (show v1249 = fa 12 10 ((x1233_4 : Int32).toInt).toNat from ev1249)
                            have := congrArg Int32.toInt (show v1279 = fa 12 4 ((x1233_4 : Int32).toInt).toNat from ev1279)
                            have := congrArg Int32.toInt (show v1282 = fa 12 5 ((x1233_4 : Int32).toInt).toNat from ev1282)
                            have y9 : ((r1285 : Int32).toInt = 1 ∧ (fa 12 11 ((x1233_4 : Int32).toInt).toNat).toInt ≤ (d : Int32).toInt ∧ ((fa 12 12 ((x1233_4 : Int32).toInt).toNat).toInt < 0 ∨ (d : Int32).toInt < (fa 12 12 ((x1233_4 : Int32).toInt).toNat).toInt)) ∨ ((r1285 : Int32).toInt = 0 ∧ ¬ ((fa 12 11 ((x1233_4 : Int32).toInt).toNat).toInt ≤ (d : Int32).toInt ∧ ((fa 12 12 ((x1233_4 : Int32).toInt).toNat).toInt < 0 ∨ (d : Int32).toInt < (fa 12 12 ((x1233_4 : Int32).toInt).toNat).toInt))) := xr1285_0
                            have hs9 : ((v1289 : Int32).toInt).toNat = ((x1233_4 : Int32).toInt).toNat + 1 := by omega
                            have hc : ¬ (((fa 12 4 ((x1233_4 : Int32).toInt).toNat).toInt = a.toInt ∧ (fa 12 5 ((x1233_4 : Int32).toInt).toNat).toInt = b.toInt ∧ (fa 12 11 ((x1233_4 : Int32).toInt).toNat).toInt ≤ d.toInt ∧ ((fa 12 12 ((x1233_4 : Int32).toInt).toNat).toInt < 0 ∨ d.toInt < (fa 12 12 ((x1233_4 : Int32).toInt).toNat).toInt)) ∧ ¬ ((fa 12 9 ((x1233_4 : Int32).toInt).toNat).toInt = (iv 12 20).toInt ∨ (fa 12 10 ((x1233_4 : Int32).toInt).toNat).toInt = (iv 12 21).toInt ∨ ((((x1233_4 : Int32).toInt).toNat : Nat) : Int) = (iv 12 22).toInt)) := by omega
                            rw [caC_n hs9 hc]; exact hq1234_7)) (show (v1289 : Int32).toInt ≤ ((iv 12 3) : Int32).toInt from by omega) (by omega) _ _ ls hP hD hS (lv_sub hl [0, 2, 3, 4, 5] rfl)
                    · exact absurd c1288 (by decide)
  have : (0 : Int32).toInt = 0 := (by decide)
  have : (0 : Int64).toInt = 0 := (by decide)
  have i_12_3 : 0 ≤ (iv 12 3).toInt ∧ (iv 12 3).toInt ≤ 60 := hI.1 12 3
  exact lp1234 61 0 0 0 0 ⟨by decide, by decide⟩ (show 0 ≤ (0 : Int64).toInt from by omega) (show (0 : Int64).toInt ≤ 9999 * (0 : Int32).toInt from by omega) (show 100 * (0 : Int32).toInt ≤ (0 : Int64).toInt from by omega) (show 0 ≤ (0 : Int32).toInt from by omega) (show (0 : Int32).toInt ≤ (0 : Int32).toInt from by omega) (show (0 : Int64).toInt = (caL (cyP (fa 12 4) (fa 12 5) (fa 12 11) (fa 12 12) (a).toInt (d).toInt (b).toInt) (owY (fa 12 9) (fa 12 10) (iv 12 20).toInt (iv 12 21).toInt (iv 12 22).toInt) (fa 12 8) ((0 : Int32).toInt).toNat).toInt from (by have hz : ((0 : Int32).toInt).toNat = 0 := (by decide); rw [hz]; exact (by decide : (0 : Int64).toInt = 0))) (show (0 : Int64).toInt = (caL (cyP (fa 12 4) (fa 12 5) (fa 12 11) (fa 12 12) (a).toInt (d).toInt (b).toInt) (owY (fa 12 9) (fa 12 10) (iv 12 20).toInt (iv 12 21).toInt (iv 12 22).toInt) (fa 12 7) ((0 : Int32).toInt).toNat).toInt from (by have hz : ((0 : Int32).toInt).toNat = 0 := (by decide); rw [hz]; exact (by decide : (0 : Int64).toInt = 0))) (show (0 : Int32).toInt = (caC (cyP (fa 12 4) (fa 12 5) (fa 12 11) (fa 12 12) (a).toInt (d).toInt (b).toInt) (owY (fa 12 9) (fa 12 10) (iv 12 20).toInt (iv 12 21).toInt (iv 12 22).toInt) ((0 : Int32).toInt).toNat).toInt from (by have hz : ((0 : Int32).toInt).toNat = 0 := (by decide); rw [hz]; exact (by decide : (0 : Int32).toInt = 0))) (show (0 : Int32).toInt ≤ ((iv 12 3) : Int32).toInt from by omega) (by first | decide | omega) _ _ ls hP hD hS (lv_sub hl [0, 1, 2, 3, 4] rfl)
