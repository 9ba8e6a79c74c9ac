/-! ===== sm2 ===== -/
set_option maxHeartbeats 4000000 in
set_option maxRecDepth 100000 in
/-- X12_sumUp -/
theorem c_X12_sumUp_s (l : Launch) (dC : Nat → ClassId) (dI : Nat → Nat → Nat) (sz : Nat) (h : Nat) (g : Nat → Nat → Nat) (ca : Nat → Nat → ClassId) (iv : Nat → Nat → Int32) (lv : Nat → Nat → Int64) (fa : Nat → Nat → Nat → Int32) (la : Nat → Nat → Nat → Int64) (hI : IX iv fa) (a : Int32) (b : Int32) (d : Int32) (q_12_20 : (-1) ≤ (iv 12 20).toInt ∧ (iv 12 20).toInt ≤ (-1)) (q_12_21 : (-1) ≤ (iv 12 21).toInt ∧ (iv 12 21).toInt ≤ (-1)) (q_12_22 : (-1) ≤ (iv 12 22).toInt ∧ (iv 12 22).toInt ≤ (-1)) (hJR : JRf (iv 12 3).toInt (fa 12 7)) : Met l yX12_sumUp (wc yX12_sumUp cX12_sumUp 6 (some .int)) ({ frames := 1, cells := 0, slots := 0, locals := 22 } : Room) (pW (dC, dI) classes (WM h g ca iv lv fa la) (TM ca) sz [.ref h, .int a, .int b, .int d]) (va_Qi (fun r (u : SS) => ∃ (ni_12_19 : Int32) (nl_12_17 : Int64) (nl_12_18 : Int64), (0 ≤ r.toInt) ∧ (r.toInt ≤ 60) ∧ (0 ≤ (nl_12_18).toInt) ∧ ((nl_12_18).toInt ≤ 599940) ∧ (100 * r.toInt ≤ (nl_12_18).toInt) ∧ ((nl_12_17).toInt = (smL (fun s : Nat => ((fa 12 4) s).toInt = a.toInt ∧ ((fa 12 5) s).toInt = b.toInt ∧ ((fa 12 11) s).toInt ≤ d.toInt ∧ (((fa 12 12) s).toInt < 0 ∨ d.toInt < ((fa 12 12) s).toInt)) (fa 12 8) ((iv 12 3).toInt).toNat).toInt) ∧ ((nl_12_18).toInt = (smL (fun s : Nat => ((fa 12 4) s).toInt = a.toInt ∧ ((fa 12 5) s).toInt = b.toInt ∧ ((fa 12 11) s).toInt ≤ d.toInt ∧ (((fa 12 12) s).toInt < 0 ∨ d.toInt < ((fa 12 12) s).toInt)) (fa 12 7) ((iv 12 3).toInt).toNat).toInt) ∧ ((ni_12_19).toInt = (smC (fun s : Nat => ((fa 12 4) s).toInt = a.toInt ∧ ((fa 12 5) s).toInt = b.toInt ∧ ((fa 12 11) s).toInt ≤ d.toInt ∧ (((fa 12 12) s).toInt < 0 ∨ d.toInt < ((fa 12 12) s).toInt)) ((iv 12 3).toInt).toNat).toInt) ∧ (r.toInt = (ni_12_19).toInt) ∧ (True) ∧ u = ((u2 iv 12 19 ni_12_19), (u2 (u2 lv 12 17 nl_12_17) 12 18 nl_12_18), fa, la)) (bM (dC, dI) h g ca (va_A (WM h g ca iv lv fa la) sz)) (va_A (WM h g ca iv lv fa la) sz)) 0 0 (va_A (WM h g ca iv lv fa la) sz) := by
  refine Met.ofW (cc := cX12_sumUp) (maxL := 6) (ret := (some .int)) (by decide) rfl ?_
  intro p e s m args below meth c s₁ B hml hv
  obtain ⟨rfl, hsz, hP, hK, hD0⟩ := hv
  have hx := B.exec
  have hb := B.bytes
  have hr := B.returns
  have ht := tb_tl (atoms_spec (ws := wc yX12_sumUp cX12_sumUp 6 (some .int)) B.pre)
  have hown : s.vm.findClass RX12 = some m.cls := findClass_of_methodNamed B.named
  have hlocks := B.notSynchronized
  subst hsz
  have hD := hD0.self (sz := s.heap.size)
  generalize hAe : va_A (WM h g ca iv lv fa la) s.heap.size = A at hD ⊢
  have hA : ∀ q : Nat, s.heap.size ≤ q → A q := fun q h => by rw [← hAe]; exact Or.inr h
  have hS : va_S A s.heap s.heap [] := va_S.rf
  have hl := lv_entry [.ref h, .int a, .int b, .int d] (n := 6) (Nat.le_of_ble_eq_true rfl)
  rw [lg_entry_eq]
  generalize (lg_sl [.ref h, .int a, .int b, .int d] ++ List.replicate (6 - (lg_sl [.ref h, .int a, .int b, .int d]).length) Slot.unset).toArray = ls at hl ⊢
  have hl : lv_has ls 6 [(0, .ref h), (1, .int a), (2, .int b), (3, .int d)] := hl
  refine lv_aload_n hx hb dX12_sumUp_0 rfl (lv_at hl 0 rfl) ?_
  refine lv_lconst (v := 0) hx hb dX12_sumUp_1 (by decide) ?_
  refine pM_12_17 (v := 0) hx hb ht hown hK hP hD hS m_1156 dX12_sumUp_2 (fun H locs hP hD hS => ?_)
  refine lv_aload_n hx hb dX12_sumUp_5 rfl (lv_at hl 0 rfl) ?_
  refine lv_lconst (v := 0) hx hb dX12_sumUp_6 (by decide) ?_
  refine pM_12_18 (v := 0) hx hb ht hown hK hP hD hS m_1157 dX12_sumUp_7 (fun H locs hP hD hS => ?_)
  refine lv_aload_n hx hb dX12_sumUp_10 rfl (lv_at hl 0 rfl) ?_
  refine lv_iconst (v := 0) hx hb dX12_sumUp_11 (by decide) ?_
  refine pM_12_19 (v := 0) hx hb ht hown hK hP hD hS m_1158 dX12_sumUp_12 (fun H locs hP hD hS => ?_)
  refine lv_iconst (v := 0) hx hb dX12_sumUp_15 (by decide) ?_
  refine lv_istore (lv' := [(4, .int 0), (0, .ref h), (1, .int a), (2, .int b), (3, .int d)]) hx hb dX12_sumUp_16 hl (by decide) rfl (fun ls hl => ?_)
  have i_12_3 : 0 ≤ (iv 12 3).toInt ∧ (iv 12 3).toInt ≤ 60 := hI.1 12 3
  have lp508 : ∀ (nn508 : Nat) (x507_4 : Int32) (w507_i_12_19 : Int32) (w507_l_12_17 : Int64) (w507_l_12_18 : Int64), 0 ≤ x507_4.toInt ∧ x507_4.toInt ≤ 60 → 0 ≤ (w507_l_12_18 : Int64).toInt → (w507_l_12_18 : Int64).toInt ≤ 9999 * (x507_4 : Int32).toInt → 100 * (w507_i_12_19 : Int32).toInt ≤ (w507_l_12_18 : Int64).toInt → 0 ≤ (w507_i_12_19 : Int32).toInt → (w507_i_12_19 : Int32).toInt ≤ (x507_4 : Int32).toInt → ((w507_l_12_17 : Int64).toInt = (smL (fun s : Nat => ((fa 12 4) s).toInt = (a).toInt ∧ ((fa 12 5) s).toInt = (b).toInt ∧ ((fa 12 11) s).toInt ≤ (d).toInt ∧ (((fa 12 12) s).toInt < 0 ∨ (d).toInt < ((fa 12 12) s).toInt)) (fa 12 8) ((x507_4 : Int32).toInt).toNat).toInt) → ((w507_l_12_18 : Int64).toInt = (smL (fun s : Nat => ((fa 12 4) s).toInt = (a).toInt ∧ ((fa 12 5) s).toInt = (b).toInt ∧ ((fa 12 11) s).toInt ≤ (d).toInt ∧ (((fa 12 12) s).toInt < 0 ∨ (d).toInt < ((fa 12 12) s).toInt)) (fa 12 7) ((x507_4 : Int32).toInt).toNat).toInt) → ((w507_i_12_19 : Int32).toInt = (smC (fun s : Nat => ((fa 12 4) s).toInt = (a).toInt ∧ ((fa 12 5) s).toInt = (b).toInt ∧ ((fa 12 11) s).toInt ≤ (d).toInt ∧ (((fa 12 12) s).toInt < 0 ∨ (d).toInt < ((fa 12 12) s).toInt)) ((x507_4 : Int32).toInt).toNat).toInt) → (x507_4 : Int32).toInt ≤ ((iv 12 3) : Int32).toInt → 60 - x507_4.toInt < (nn508 : Int) → ∀ (H : Heap) (locs : List Loc), ∀ (ls : Array Slot), va_P (dC, dI) classes (WM h g ca (u2 iv 12 19 w507_i_12_19) (u2 (u2 lv 12 17 w507_l_12_17) 12 18 w507_l_12_18) fa la) H → va_D A (WM h g ca (u2 iv 12 19 w507_i_12_19) (u2 (u2 lv 12 17 w507_l_12_17) 12 18 w507_l_12_18) fa la) → va_S A s.heap H locs → lv_has ls 6 [(4, .int x507_4), (0, .ref h), (1, .int a), (2, .int b), (3, .int d)] → W p l e ({ frames := 1, cells := 0, slots := 0, locals := 22 } : Room) s m ([.ref h, .int a, .int b, .int d] : List Value).toArray below meth c H locs 0 0 (MQ below (va_Qi (fun r (u : SS) => ∃ (ni_12_19 : Int32) (nl_12_17 : Int64) (nl_12_18 : Int64), (0 ≤ r.toInt) ∧ (r.toInt ≤ 60) ∧ (0 ≤ (nl_12_18).toInt) ∧ ((nl_12_18).toInt ≤ 599940) ∧ (100 * r.toInt ≤ (nl_12_18).toInt) ∧ ((nl_12_17).toInt = (smL (fun s : Nat => ((fa 12 4) s).toInt = a.toInt ∧ ((fa 12 5) s).toInt = b.toInt ∧ ((fa 12 11) s).toInt ≤ d.toInt ∧ (((fa 12 12) s).toInt < 0 ∨ d.toInt < ((fa 12 12) s).toInt)) (fa 12 8) ((iv 12 3).toInt).toNat).toInt) ∧ ((nl_12_18).toInt = (smL (fun s : Nat => ((fa 12 4) s).toInt = a.toInt ∧ ((fa 12 5) s).toInt = b.toInt ∧ ((fa 12 11) s).toInt ≤ d.toInt ∧ (((fa 12 12) s).toInt < 0 ∨ d.toInt < ((fa 12 12) s).toInt)) (fa 12 7) ((iv 12 3).toInt).toNat).toInt) ∧ ((ni_12_19).toInt = (smC (fun s : Nat => ((fa 12 4) s).toInt = a.toInt ∧ ((fa 12 5) s).toInt = b.toInt ∧ ((fa 12 11) s).toInt ≤ d.toInt ∧ (((fa 12 12) s).toInt < 0 ∨ d.toInt < ((fa 12 12) s).toInt)) ((iv 12 3).toInt).toNat).toInt) ∧ (r.toInt = (ni_12_19).toInt) ∧ (True) ∧ u = ((u2 iv 12 19 ni_12_19), (u2 (u2 lv 12 17 nl_12_17) 12 18 nl_12_18), fa, la)) (bM (dC, dI) h g ca A) A) ([.ref h, .int a, .int b, .int d] : List Value).toArray s 0 0 A) (F0 m 18 ls []) := by
    intro nn508
    induction nn508 with
    | zero => intro x507_4 w507_i_12_19 w507_l_12_17 w507_l_12_18 hx507_4 hq508_0 hq508_1 hq508_2 hq508_3 hq508_4 hq508_5 hq508_6 hq508_7 hq508_8 hm508; exfalso; omega
    | succ nn508 ih508 =>
      intro x507_4 w507_i_12_19 w507_l_12_17 w507_l_12_18 hx507_4 hq508_0 hq508_1 hq508_2 hq508_3 hq508_4 hq508_5 hq508_6 hq508_7 hq508_8 hm508 H locs ls hP hD hS hl
      refine lv_iload hx hb dX12_sumUp_18 (lv_at hl 0 rfl) ?_
      refine lv_aload_n hx hb dX12_sumUp_20 rfl (lv_at hl 1 rfl) ?_
      refine gM_12_3 hx hb ht hown hK hP m_1142 (v := (iv 12 3)) rfl dX12_sumUp_21 ?_
      refine lv_icmp_ge (tgt := 158) hx hb dX12_sumUp_24 (by decide) (fun c509 => ?_) (fun c509 => ?_)
      · have fc509 := z_le (rfl : ((iv 12 3)).toInt = _) (rfl : (x507_4).toInt = _) c509
        refine lv_aload_n hx hb dX12_sumUp_158 rfl (lv_at hl 1 rfl) ?_
        refine gM_12_19 hx hb ht hown hK hP m_1158 (v := w507_i_12_19) rfl dX12_sumUp_159 ?_
        have hP9 : va_P (dC, dI) classes (WM h g ca (u2 iv 12 19 w507_i_12_19) (u2 (u2 lv 12 17 w507_l_12_17) 12 18 w507_l_12_18) fa la) H := hP
        have hD9 : va_D A (WM h g ca (u2 iv 12 19 w507_i_12_19) (u2 (u2 lv 12 17 w507_l_12_17) 12 18 w507_l_12_18) fa la) := hD
        exact W.iret (v := w507_i_12_19) hx hb hr (fun t ht9 hW => ⟨⟨w507_i_12_19, ((u2 iv 12 19 w507_i_12_19), (u2 (u2 lv 12 17 w507_l_12_17) 12 18 w507_l_12_18), fa, la), rfl, ⟨w507_i_12_19, w507_l_12_17, w507_l_12_18, (show 0 ≤ (w507_i_12_19 : Int32).toInt from by omega), (show (w507_i_12_19 : Int32).toInt ≤ 60 from by omega), (show 0 ≤ (w507_l_12_18 : Int64).toInt from by omega), (show (w507_l_12_18 : Int64).toInt ≤ 599940 from by omega), (show 100 * (w507_i_12_19 : Int32).toInt ≤ (w507_l_12_18 : Int64).toInt from by omega), (show (w507_l_12_17 : Int64).toInt = (smL (fun s : Nat => ((fa 12 4) s).toInt = (a).toInt ∧ ((fa 12 5) s).toInt = (b).toInt ∧ ((fa 12 11) s).toInt ≤ (d).toInt ∧ (((fa 12 12) s).toInt < 0 ∨ (d).toInt < ((fa 12 12) s).toInt)) (fa 12 8) (((iv 12 3) : Int32).toInt).toNat).toInt from (by have hq9 := hq508_5; have he9 : (x507_4 : Int32).toInt = (iv 12 3).toInt := (by omega); rw [he9] at hq9; exact hq9)), (show (w507_l_12_18 : Int64).toInt = (smL (fun s : Nat => ((fa 12 4) s).toInt = (a).toInt ∧ ((fa 12 5) s).toInt = (b).toInt ∧ ((fa 12 11) s).toInt ≤ (d).toInt ∧ (((fa 12 12) s).toInt < 0 ∨ (d).toInt < ((fa 12 12) s).toInt)) (fa 12 7) (((iv 12 3) : Int32).toInt).toNat).toInt from (by have hq9 := hq508_6; have he9 : (x507_4 : Int32).toInt = (iv 12 3).toInt := (by omega); rw [he9] at hq9; exact hq9)), (show (w507_i_12_19 : Int32).toInt = (smC (fun s : Nat => ((fa 12 4) s).toInt = (a).toInt ∧ ((fa 12 5) s).toInt = (b).toInt ∧ ((fa 12 11) s).toInt ≤ (d).toInt ∧ (((fa 12 12) s).toInt < 0 ∨ (d).toInt < ((fa 12 12) s).toInt)) (((iv 12 3) : Int32).toInt).toNat).toInt from (by have hq9 := hq508_7; have he9 : (x507_4 : Int32).toInt = (iv 12 3).toInt := (by omega); rw [he9] at hq9; exact hq9)), (show (w507_i_12_19 : Int32).toInt = (w507_i_12_19 : Int32).toInt from by omega), trivial, rfl⟩, by rw [ht9]; exact hP9, hD9⟩, hS.F ht9⟩) hS.2.2 dX12_sumUp_162
      · have fc509 := z_nle (rfl : ((iv 12 3)).toInt = _) (rfl : (x507_4).toInt = _) c509
        refine lv_aload_n hx hb dX12_sumUp_27 rfl (lv_at hl 1 rfl) ?_
        refine gM_12_9 hx hb ht hown hK hP m_1148 dX12_sumUp_28 ?_
        refine lv_iload hx hb dX12_sumUp_31 (lv_at hl 0 rfl) ?_
        refine lM_12_9 hx hb hK hP (f := (fa 12 9)) rfl (vp_in_iff.mpr ⟨by omega, by omega⟩) dX12_sumUp_33 ?_
        refine lv_topi (fun v510 ev510 => ?_)
        have tv510 : 0 ≤ v510.toInt ∧ v510.toInt ≤ 3 := by rw [ev510]; exact hI.2 12 9 _
        refine lv_aload_n hx hb dX12_sumUp_34 rfl (lv_at hl 1 rfl) ?_
        refine gM_12_20 hx hb ht hown hK hP m_1159 (v := (iv 12 20)) rfl dX12_sumUp_35 ?_
        refine lv_icmp_eq (tgt := 64) hx hb dX12_sumUp_38 (by decide) (fun c511 => ?_) (fun c511 => ?_)
        · have fc511 := z_eq (rfl : (v510).toInt = _) (rfl : ((iv 12 20)).toInt = _) c511; exfalso; omega
        · skip
          refine lv_aload_n hx hb dX12_sumUp_41 rfl (lv_at hl 1 rfl) ?_
          refine gM_12_10 hx hb ht hown hK hP m_1149 dX12_sumUp_42 ?_
          refine lv_iload hx hb dX12_sumUp_45 (lv_at hl 0 rfl) ?_
          refine lM_12_10 hx hb hK hP (f := (fa 12 10)) rfl (vp_in_iff.mpr ⟨by omega, by omega⟩) dX12_sumUp_47 ?_
          refine lv_topi (fun v512 ev512 => ?_)
          have tv512 : 0 ≤ v512.toInt ∧ v512.toInt ≤ 7 := by rw [ev512]; exact hI.2 12 10 _
          refine lv_aload_n hx hb dX12_sumUp_48 rfl (lv_at hl 1 rfl) ?_
          refine gM_12_21 hx hb ht hown hK hP m_1160 (v := (iv 12 21)) rfl dX12_sumUp_49 ?_
          refine lv_icmp_eq (tgt := 64) hx hb dX12_sumUp_52 (by decide) (fun c513 => ?_) (fun c513 => ?_)
          · have fc513 := z_eq (rfl : (v512).toInt = _) (rfl : ((iv 12 21)).toInt = _) c513; exfalso; omega
          · skip
            refine lv_iload hx hb dX12_sumUp_55 (lv_at hl 0 rfl) ?_
            refine lv_aload_n hx hb dX12_sumUp_57 rfl (lv_at hl 1 rfl) ?_
            refine gM_12_22 hx hb ht hown hK hP m_1161 (v := (iv 12 22)) rfl dX12_sumUp_58 ?_
            refine lv_icmp_ne (tgt := 68) hx hb dX12_sumUp_61 (by decide) (fun c514 => ?_) (fun c514 => ?_)
            · skip
              refine lv_iconst (v := 0) hx hb dX12_sumUp_68 (by decide) ?_
              refine lv_istore (lv' := [(5, .int 0), (4, .int x507_4), (0, .ref h), (1, .int a), (2, .int b), (3, .int d)]) hx hb dX12_sumUp_69 hl (by decide) rfl (fun ls hl => ?_)
              refine lv_aload_n hx hb dX12_sumUp_71 rfl (lv_at hl 2 rfl) ?_
              refine gM_12_4 hx hb ht hown hK hP m_1143 dX12_sumUp_72 ?_
              refine lv_iload hx hb dX12_sumUp_75 (lv_at hl 1 rfl) ?_
              refine lM_12_4 hx hb hK hP (f := (fa 12 4)) rfl (vp_in_iff.mpr ⟨by omega, by omega⟩) dX12_sumUp_77 ?_
              refine lv_topi (fun v515 ev515 => ?_)
              refine lv_iload_n hx hb dX12_sumUp_78 rfl (lv_at hl 3 rfl) ?_
              refine lv_icmp_ne (tgt := 152) hx hb dX12_sumUp_79 (by decide) (fun c516 => ?_) (fun c516 => ?_)
              · have fc516 := z_ne (rfl : (v515).toInt = _) (rfl : (a).toInt = _) c516
                obtain ⟨v517, ev517⟩ : ∃ y : Int32, y = x507_4 + 1 := ⟨_, rfl⟩
                have tv517 := z_add ev517 rfl (by decide : (1 : Int32).toInt = 1) (by omega) (by omega)
                refine lv_iinc (v := v517) (lv' := [(4, .int v517), (5, .int 0), (0, .ref h), (1, .int a), (2, .int b), (3, .int d)]) hx hb dX12_sumUp_152 hl (k := 1) rfl (by rw [ev517]; rfl) (by decide) rfl (fun ls hl => ?_)
                refine lv_goto (tgt := 18) hx hb dX12_sumUp_155 (by decide) ?_
                exact ih508 v517 w507_i_12_19 w507_l_12_17 w507_l_12_18 ⟨by omega, by omega⟩ (show 0 ≤ (w507_l_12_18 : Int64).toInt from by omega) (show (w507_l_12_18 : Int64).toInt ≤ 9999 * (v517 : Int32).toInt from by omega) (show 100 * (w507_i_12_19 : Int32).toInt ≤ (w507_l_12_18 : Int64).toInt from by omega) (show 0 ≤ (w507_i_12_19 : Int32).toInt from by omega) (show (w507_i_12_19 : Int32).toInt ≤ (v517 : Int32).toInt from by omega) (show (w507_l_12_17 : Int64).toInt = (smL (fun s : Nat => ((fa 12 4) s).toInt = (a).toInt ∧ ((fa 12 5) s).toInt = (b).toInt ∧ ((fa 12 11) s).toInt ≤ (d).toInt ∧ (((fa 12 12) s).toInt < 0 ∨ (d).toInt < ((fa 12 12) s).toInt)) (fa 12 8) ((v517 : Int32).toInt).toNat).toInt from (by
                      have := congrArg Int32.toInt (show v510 = fa 12 9 ((x507_4 : Int32).toInt).toNat from ev510)
                      have := congrArg Int32.toInt (show v512 = fa 12 10 ((x507_4 : Int32).toInt).toNat from ev512)
                      have := congrArg Int32.toInt (show v515 = fa 12 4 ((x507_4 : Int32).toInt).toNat from ev515)
                      have hs9 : ((v517 : Int32).toInt).toNat = ((x507_4 : Int32).toInt).toNat + 1 := by omega
                      have hc : ¬ ((fa 12 4 ((x507_4 : Int32).toInt).toNat).toInt = a.toInt ∧ (fa 12 5 ((x507_4 : Int32).toInt).toNat).toInt = b.toInt ∧ (fa 12 11 ((x507_4 : Int32).toInt).toNat).toInt ≤ d.toInt ∧ ((fa 12 12 ((x507_4 : Int32).toInt).toNat).toInt < 0 ∨ d.toInt < (fa 12 12 ((x507_4 : Int32).toInt).toNat).toInt)) := by omega
                      rw [smL_n hs9 hc]; exact hq508_5)) (show (w507_l_12_18 : Int64).toInt = (smL (fun s : Nat => ((fa 12 4) s).toInt = (a).toInt ∧ ((fa 12 5) s).toInt = (b).toInt ∧ ((fa 12 11) s).toInt ≤ (d).toInt ∧ (((fa 12 12) s).toInt < 0 ∨ (d).toInt < ((fa 12 12) s).toInt)) (fa 12 7) ((v517 : Int32).toInt).toNat).toInt from (by
                      have := congrArg Int32.toInt (show v510 = fa 12 9 ((x507_4 : Int32).toInt).toNat from ev510)
                      have := congrArg Int32.toInt (show v512 = fa 12 10 ((x507_4 : Int32).toInt).toNat from ev512)
                      have := congrArg Int32.toInt (show v515 = fa 12 4 ((x507_4 : Int32).toInt).toNat from ev515)
                      have hs9 : ((v517 : Int32).toInt).toNat = ((x507_4 : Int32).toInt).toNat + 1 := by omega
                      have hc : ¬ ((fa 12 4 ((x507_4 : Int32).toInt).toNat).toInt = a.toInt ∧ (fa 12 5 ((x507_4 : Int32).toInt).toNat).toInt = b.toInt ∧ (fa 12 11 ((x507_4 : Int32).toInt).toNat).toInt ≤ d.toInt ∧ ((fa 12 12 ((x507_4 : Int32).toInt).toNat).toInt < 0 ∨ d.toInt < (fa 12 12 ((x507_4 : Int32).toInt).toNat).toInt)) := by omega
                      rw [smL_n hs9 hc]; exact hq508_6)) (show (w507_i_12_19 : Int32).toInt = (smC (fun s : Nat => ((fa 12 4) s).toInt = (a).toInt ∧ ((fa 12 5) s).toInt = (b).toInt ∧ ((fa 12 11) s).toInt ≤ (d).toInt ∧ (((fa 12 12) s).toInt < 0 ∨ (d).toInt < ((fa 12 12) s).toInt)) ((v517 : Int32).toInt).toNat).toInt from (by
                      have := congrArg Int32.toInt (show v510 = fa 12 9 ((x507_4 : Int32).toInt).toNat from ev510)
                      have := congrArg Int32.toInt (show v512 = fa 12 10 ((x507_4 : Int32).toInt).toNat from ev512)
                      have := congrArg Int32.toInt (show v515 = fa 12 4 ((x507_4 : Int32).toInt).toNat from ev515)
                      have hs9 : ((v517 : Int32).toInt).toNat = ((x507_4 : Int32).toInt).toNat + 1 := by omega
                      have hc : ¬ ((fa 12 4 ((x507_4 : Int32).toInt).toNat).toInt = a.toInt ∧ (fa 12 5 ((x507_4 : Int32).toInt).toNat).toInt = b.toInt ∧ (fa 12 11 ((x507_4 : Int32).toInt).toNat).toInt ≤ d.toInt ∧ ((fa 12 12 ((x507_4 : Int32).toInt).toNat).toInt < 0 ∨ d.toInt < (fa 12 12 ((x507_4 : Int32).toInt).toNat).toInt)) := by omega
                      rw [smC_n hs9 hc]; exact hq508_7)) (show (v517 : Int32).toInt ≤ ((iv 12 3) : Int32).toInt from by omega) (by omega) _ _ ls hP hD hS (lv_sub hl [0, 2, 3, 4, 5] rfl)
              · have fc516 := z_eq (rfl : (v515).toInt = _) (rfl : (a).toInt = _) c516
                refine lv_aload_n hx hb dX12_sumUp_82 rfl (lv_at hl 2 rfl) ?_
                refine gM_12_5 hx hb ht hown hK hP m_1144 dX12_sumUp_83 ?_
                refine lv_iload hx hb dX12_sumUp_86 (lv_at hl 1 rfl) ?_
                refine lM_12_5 hx hb hK hP (f := (fa 12 5)) rfl (vp_in_iff.mpr ⟨by omega, by omega⟩) dX12_sumUp_88 ?_
                refine lv_topi (fun v518 ev518 => ?_)
                refine lv_iload_n hx hb dX12_sumUp_89 rfl (lv_at hl 4 rfl) ?_
                refine lv_icmp_ne (tgt := 152) hx hb dX12_sumUp_90 (by decide) (fun c519 => ?_) (fun c519 => ?_)
                · have fc519 := z_ne (rfl : (v518).toInt = _) (rfl : (b).toInt = _) c519
                  obtain ⟨v520, ev520⟩ : ∃ y : Int32, y = x507_4 + 1 := ⟨_, rfl⟩
                  have tv520 := z_add ev520 rfl (by decide : (1 : Int32).toInt = 1) (by omega) (by omega)
                  refine lv_iinc (v := v520) (lv' := [(4, .int v520), (5, .int 0), (0, .ref h), (1, .int a), (2, .int b), (3, .int d)]) hx hb dX12_sumUp_152 hl (k := 1) rfl (by rw [ev520]; rfl) (by decide) rfl (fun ls hl => ?_)
                  refine lv_goto (tgt := 18) hx hb dX12_sumUp_155 (by decide) ?_
                  exact ih508 v520 w507_i_12_19 w507_l_12_17 w507_l_12_18 ⟨by omega, by omega⟩ (show 0 ≤ (w507_l_12_18 : Int64).toInt from by omega) (show (w507_l_12_18 : Int64).toInt ≤ 9999 * (v520 : Int32).toInt from by omega) (show 100 * (w507_i_12_19 : Int32).toInt ≤ (w507_l_12_18 : Int64).toInt from by omega) (show 0 ≤ (w507_i_12_19 : Int32).toInt from by omega) (show (w507_i_12_19 : Int32).toInt ≤ (v520 : Int32).toInt from by omega) (show (w507_l_12_17 : Int64).toInt = (smL (fun s : Nat => ((fa 12 4) s).toInt = (a).toInt ∧ ((fa 12 5) s).toInt = (b).toInt ∧ ((fa 12 11) s).toInt ≤ (d).toInt ∧ (((fa 12 12) s).toInt < 0 ∨ (d).toInt < ((fa 12 12) s).toInt)) (fa 12 8) ((v520 : Int32).toInt).toNat).toInt from (by
                        have := congrArg Int32.toInt (show v510 = fa 12 9 ((x507_4 : Int32).toInt).toNat from ev510)
                        have := congrArg Int32.toInt (show v512 = fa 12 10 ((x507_4 : Int32).toInt).toNat from ev512)
                        have := congrArg Int32.toInt (show v515 = fa 12 4 ((x507_4 : Int32).toInt).toNat from ev515)
                        have := congrArg Int32.toInt (show v518 = fa 12 5 ((x507_4 : Int32).toInt).toNat from ev518)
                        have hs9 : ((v520 : Int32).toInt).toNat = ((x507_4 : Int32).toInt).toNat + 1 := by omega
                        have hc : ¬ ((fa 12 4 ((x507_4 : Int32).toInt).toNat).toInt = a.toInt ∧ (fa 12 5 ((x507_4 : Int32).toInt).toNat).toInt = b.toInt ∧ (fa 12 11 ((x507_4 : Int32).toInt).toNat).toInt ≤ d.toInt ∧ ((fa 12 12 ((x507_4 : Int32).toInt).toNat).toInt < 0 ∨ d.toInt < (fa 12 12 ((x507_4 : Int32).toInt).toNat).toInt)) := by omega
                        rw [smL_n hs9 hc]; exact hq508_5)) (show (w507_l_12_18 : Int64).toInt = (smL (fun s : Nat => ((fa 12 4) s).toInt = (a).toInt ∧ ((fa 12 5) s).toInt = (b).toInt ∧ ((fa 12 11) s).toInt ≤ (d).toInt ∧ (((fa 12 12) s).toInt < 0 ∨ (d).toInt < ((fa 12 12) s).toInt)) (fa 12 7) ((v520 : Int32).toInt).toNat).toInt from (by
                        have := congrArg Int32.toInt (show v510 = fa 12 9 ((x507_4 : Int32).toInt).toNat from ev510)
                        have := congrArg Int32.toInt (show v512 = fa 12 10 ((x507_4 : Int32).toInt).toNat from ev512)
                        have := congrArg Int32.toInt (show v515 = fa 12 4 ((x507_4 : Int32).toInt).toNat from ev515)
                        have := congrArg Int32.toInt (show v518 = fa 12 5 ((x507_4 : Int32).toInt).toNat from ev518)
                        have hs9 : ((v520 : Int32).toInt).toNat = ((x507_4 : Int32).toInt).toNat + 1 := by omega
                        have hc : ¬ ((fa 12 4 ((x507_4 : Int32).toInt).toNat).toInt = a.toInt ∧ (fa 12 5 ((x507_4 : Int32).toInt).toNat).toInt = b.toInt ∧ (fa 12 11 ((x507_4 : Int32).toInt).toNat).toInt ≤ d.toInt ∧ ((fa 12 12 ((x507_4 : Int32).toInt).toNat).toInt < 0 ∨ d.toInt < (fa 12 12 ((x507_4 : Int32).toInt).toNat).toInt)) := by omega
                        rw [smL_n hs9 hc]; exact hq508_6)) (show (w507_i_12_19 : Int32).toInt = (smC (fun s : Nat => ((fa 12 4) s).toInt = (a).toInt ∧ ((fa 12 5) s).toInt = (b).toInt ∧ ((fa 12 11) s).toInt ≤ (d).toInt ∧ (((fa 12 12) s).toInt < 0 ∨ (d).toInt < ((fa 12 12) s).toInt)) ((v520 : Int32).toInt).toNat).toInt from (by
                        have := congrArg Int32.toInt (show v510 = fa 12 9 ((x507_4 : Int32).toInt).toNat from ev510)
                        have := congrArg Int32.toInt (show v512 = fa 12 10 ((x507_4 : Int32).toInt).toNat from ev512)
                        have := congrArg Int32.toInt (show v515 = fa 12 4 ((x507_4 : Int32).toInt).toNat from ev515)
                        have := congrArg Int32.toInt (show v518 = fa 12 5 ((x507_4 : Int32).toInt).toNat from ev518)
                        have hs9 : ((v520 : Int32).toInt).toNat = ((x507_4 : Int32).toInt).toNat + 1 := by omega
                        have hc : ¬ ((fa 12 4 ((x507_4 : Int32).toInt).toNat).toInt = a.toInt ∧ (fa 12 5 ((x507_4 : Int32).toInt).toNat).toInt = b.toInt ∧ (fa 12 11 ((x507_4 : Int32).toInt).toNat).toInt ≤ d.toInt ∧ ((fa 12 12 ((x507_4 : Int32).toInt).toNat).toInt < 0 ∨ d.toInt < (fa 12 12 ((x507_4 : Int32).toInt).toNat).toInt)) := by omega
                        rw [smC_n hs9 hc]; exact hq508_7)) (show (v520 : Int32).toInt ≤ ((iv 12 3) : Int32).toInt from by omega) (by omega) _ _ ls hP hD hS (lv_sub hl [0, 2, 3, 4, 5] rfl)
                · have fc519 := z_eq (rfl : (v518).toInt = _) (rfl : (b).toInt = _) c519
                  refine lv_aload_n hx hb dX12_sumUp_93 rfl (lv_at hl 2 rfl) ?_
                  refine lv_iload hx hb dX12_sumUp_94 (lv_at hl 1 rfl) ?_
                  refine lv_iload_n hx hb dX12_sumUp_96 rfl (lv_at hl 5 rfl) ?_
                  refine vp_callSi (W.runV (As := [.int x507_4, .int d]) (rest := []) ⟨hx, hb, hml, hown, ht⟩ (c_X12_isThere_x l dC dI h g ca (u2 iv 12 19 w507_i_12_19) (u2 (u2 lv 12 17 w507_l_12_17) 12 18 w507_l_12_18) fa la (IX_i (c := 12) (k := 19) hI (full_i _)) x507_4 d ⟨by omega, by omega⟩) (kV 2 ht m_1438 m_1440 m_46 m_89 m_1441 rfl rfl hd_X12_isThere_v ⟨Nat.le_of_ble_eq_true rfl, Nat.le_of_ble_eq_true rfl⟩) (vR hP hK (rM_12 hK hP)) rfl rfl hl.1 rfl (lv_room (Nat.le_of_ble_eq_true rfl)) dX12_sumUp_97 ⟨Nat.le_of_ble_eq_true rfl, Nat.le_of_ble_eq_true rfl⟩) (fun r521 hr521 => ?_)
                  obtain ⟨hr521, xr521_0⟩ := hr521
                  have xr521_0 : (((r521 : Int32).toInt = 1 ∧ ((fa 12 11) (x507_4 : Int32).toNatClampNeg).toInt ≤ (d : Int32).toInt ∧ (((fa 12 12) (x507_4 : Int32).toNatClampNeg).toInt < 0 ∨ (d : Int32).toInt < ((fa 12 12) (x507_4 : Int32).toNatClampNeg).toInt)) ∨ ((r521 : Int32).toInt = 0 ∧ ¬ (((fa 12 11) (x507_4 : Int32).toNatClampNeg).toInt ≤ (d : Int32).toInt ∧ (((fa 12 12) (x507_4 : Int32).toNatClampNeg).toInt < 0 ∨ (d : Int32).toInt < ((fa 12 12) (x507_4 : Int32).toNatClampNeg).toInt)))) := xr521_0
                  refine lv_if_eq (tgt := 152) hx hb dX12_sumUp_100 (by decide) (fun c522 => ?_) (fun c522 => ?_)
                  · have fc522 := z_eq (rfl : (r521).toInt = _) (by decide : (0 : Int32).toInt = 0) c522
                    obtain ⟨v523, ev523⟩ : ∃ y : Int32, y = x507_4 + 1 := ⟨_, rfl⟩
                    have tv523 := z_add ev523 rfl (by decide : (1 : Int32).toInt = 1) (by omega) (by omega)
                    refine lv_iinc (v := v523) (lv' := [(4, .int v523), (5, .int 0), (0, .ref h), (1, .int a), (2, .int b), (3, .int d)]) hx hb dX12_sumUp_152 hl (k := 1) rfl (by rw [ev523]; rfl) (by decide) rfl (fun ls hl => ?_)
                    refine lv_goto (tgt := 18) hx hb dX12_sumUp_155 (by decide) ?_
                    exact ih508 v523 w507_i_12_19 w507_l_12_17 w507_l_12_18 ⟨by omega, by omega⟩ (show 0 ≤ (w507_l_12_18 : Int64).toInt from by omega) (show (w507_l_12_18 : Int64).toInt ≤ 9999 * (v523 : Int32).toInt from by omega) (show 100 * (w507_i_12_19 : Int32).toInt ≤ (w507_l_12_18 : Int64).toInt from by omega) (show 0 ≤ (w507_i_12_19 : Int32).toInt from by omega) (show (w507_i_12_19 : Int32).toInt ≤ (v523 : Int32).toInt from by omega) (show (w507_l_12_17 : Int64).toInt = (smL (fun s : Nat => ((fa 12 4) s).toInt = (a).toInt ∧ ((fa 12 5) s).toInt = (b).toInt ∧ ((fa 12 11) s).toInt ≤ (d).toInt ∧ (((fa 12 12) s).toInt < 0 ∨ (d).toInt < ((fa 12 12) s).toInt)) (fa 12 8) ((v523 : Int32).toInt).toNat).toInt from (by
                          have := congrArg Int32.toInt (show v510 = fa 12 9 ((x507_4 : Int32).toInt).toNat from ev510)
                          have := congrArg Int32.toInt (show v512 = fa 12 10 ((x507_4 : Int32).toInt).toNat from ev512)
                          have := congrArg Int32.toInt (show v515 = fa 12 4 ((x507_4 : Int32).toInt).toNat from ev515)
                          have := congrArg Int32.toInt (show v518 = fa 12 5 ((x507_4 : Int32).toInt).toNat from ev518)
                          have y9 : ((r521 : Int32).toInt = 1 ∧ (fa 12 11 ((x507_4 : Int32).toInt).toNat).toInt ≤ (d : Int32).toInt ∧ ((fa 12 12 ((x507_4 : Int32).toInt).toNat).toInt < 0 ∨ (d : Int32).toInt < (fa 12 12 ((x507_4 : Int32).toInt).toNat).toInt)) ∨ ((r521 : Int32).toInt = 0 ∧ ¬ ((fa 12 11 ((x507_4 : Int32).toInt).toNat).toInt ≤ (d : Int32).toInt ∧ ((fa 12 12 ((x507_4 : Int32).toInt).toNat).toInt < 0 ∨ (d : Int32).toInt < (fa 12 12 ((x507_4 : Int32).toInt).toNat).toInt))) := xr521_0
                          have hs9 : ((v523 : Int32).toInt).toNat = ((x507_4 : Int32).toInt).toNat + 1 := by omega
                          have hc : ¬ ((fa 12 4 ((x507_4 : Int32).toInt).toNat).toInt = a.toInt ∧ (fa 12 5 ((x507_4 : Int32).toInt).toNat).toInt = b.toInt ∧ (fa 12 11 ((x507_4 : Int32).toInt).toNat).toInt ≤ d.toInt ∧ ((fa 12 12 ((x507_4 : Int32).toInt).toNat).toInt < 0 ∨ d.toInt < (fa 12 12 ((x507_4 : Int32).toInt).toNat).toInt)) := by omega
                          rw [smL_n hs9 hc]; exact hq508_5)) (show (w507_l_12_18 : Int64).toInt = (smL (fun s : Nat => ((fa 12 4) s).toInt = (a).toInt ∧ ((fa 12 5) s).toInt = (b).toInt ∧ ((fa 12 11) s).toInt ≤ (d).toInt ∧ (((fa 12 12) s).toInt < 0 ∨ (d).toInt < ((fa 12 12) s).toInt)) (fa 12 7) ((v523 : Int32).toInt).toNat).toInt from (by
                          have := congrArg Int32.toInt (show v510 = fa 12 9 ((x507_4 : Int32).toInt).toNat from ev510)
                          have := congrArg Int32.toInt (show v512 = fa 12 10 ((x507_4 : Int32).toInt).toNat from ev512)
                          have := congrArg Int32.toInt (show v515 = fa 12 4 ((x507_4 : Int32).toInt).toNat from ev515)
                          have := congrArg Int32.toInt (show v518 = fa 12 5 ((x507_4 : Int32).toInt).toNat from ev518)
                          have y9 : ((r521 : Int32).toInt = 1 ∧ (fa 12 11 ((x507_4 : Int32).toInt).toNat).toInt ≤ (d : Int32).toInt ∧ ((fa 12 12 ((x507_4 : Int32).toInt).toNat).toInt < 0 ∨ (d : Int32).toInt < (fa 12 12 ((x507_4 : Int32).toInt).toNat).toInt)) ∨ ((r521 : Int32).toInt = 0 ∧ ¬ ((fa 12 11 ((x507_4 : Int32).toInt).toNat).toInt ≤ (d : Int32).toInt ∧ ((fa 12 12 ((x507_4 : Int32).toInt).toNat).toInt < 0 ∨ (d : Int32).toInt < (fa 12 12 ((x507_4 : Int32).toInt).toNat).toInt))) := xr521_0
                          have hs9 : ((v523 : Int32).toInt).toNat = ((x507_4 : Int32).toInt).toNat + 1 := by omega
                          have hc : ¬ ((fa 12 4 ((x507_4 : Int32).toInt).toNat).toInt = a.toInt ∧ (fa 12 5 ((x507_4 : Int32).toInt).toNat).toInt = b.toInt ∧ (fa 12 11 ((x507_4 : Int32).toInt).toNat).toInt ≤ d.toInt ∧ ((fa 12 12 ((x507_4 : Int32).toInt).toNat).toInt < 0 ∨ d.toInt < (fa 12 12 ((x507_4 : Int32).toInt).toNat).toInt)) := by omega
                          rw [smL_n hs9 hc]; exact hq508_6)) (show (w507_i_12_19 : Int32).toInt = (smC (fun s : Nat => ((fa 12 4) s).toInt = (a).toInt ∧ ((fa 12 5) s).toInt = (b).toInt ∧ ((fa 12 11) s).toInt ≤ (d).toInt ∧ (((fa 12 12) s).toInt < 0 ∨ (d).toInt < ((fa 12 12) s).toInt)) ((v523 : Int32).toInt).toNat).toInt from (by
                          have := congrArg Int32.toInt (show v510 = fa 12 9 ((x507_4 : Int32).toInt).toNat from ev510)
                          have := congrArg Int32.toInt (show v512 = fa 12 10 ((x507_4 : Int32).toInt).toNat from ev512)
                          have := congrArg Int32.toInt (show v515 = fa 12 4 ((x507_4 : Int32).toInt).toNat from ev515)
                          have := congrArg Int32.toInt (show v518 = fa 12 5 ((x507_4 : Int32).toInt).toNat from ev518)
                          have y9 : ((r521 : Int32).toInt = 1 ∧ (fa 12 11 ((x507_4 : Int32).toInt).toNat).toInt ≤ (d : Int32).toInt ∧ ((fa 12 12 ((x507_4 : Int32).toInt).toNat).toInt < 0 ∨ (d : Int32).toInt < (fa 12 12 ((x507_4 : Int32).toInt).toNat).toInt)) ∨ ((r521 : Int32).toInt = 0 ∧ ¬ ((fa 12 11 ((x507_4 : Int32).toInt).toNat).toInt ≤ (d : Int32).toInt ∧ ((fa 12 12 ((x507_4 : Int32).toInt).toNat).toInt < 0 ∨ (d : Int32).toInt < (fa 12 12 ((x507_4 : Int32).toInt).toNat).toInt))) := xr521_0
                          have hs9 : ((v523 : Int32).toInt).toNat = ((x507_4 : Int32).toInt).toNat + 1 := by omega
                          have hc : ¬ ((fa 12 4 ((x507_4 : Int32).toInt).toNat).toInt = a.toInt ∧ (fa 12 5 ((x507_4 : Int32).toInt).toNat).toInt = b.toInt ∧ (fa 12 11 ((x507_4 : Int32).toInt).toNat).toInt ≤ d.toInt ∧ ((fa 12 12 ((x507_4 : Int32).toInt).toNat).toInt < 0 ∨ d.toInt < (fa 12 12 ((x507_4 : Int32).toInt).toNat).toInt)) := by omega
                          rw [smC_n hs9 hc]; exact hq508_7)) (show (v523 : Int32).toInt ≤ ((iv 12 3) : Int32).toInt from by omega) (by omega) _ _ ls hP hD hS (lv_sub hl [0, 2, 3, 4, 5] rfl)
                  · have fc522 := z_ne (rfl : (r521).toInt = _) (by decide : (0 : Int32).toInt = 0) c522
                    refine lv_iload hx hb dX12_sumUp_103 (lv_at hl 0 rfl) ?_
                    refine lv_if_ne (tgt := 152) hx hb dX12_sumUp_105 (by decide) (fun c524 => ?_) (fun c524 => ?_)
                    · exact absurd rfl c524
                    · skip
                      refine lv_aload_n hx hb dX12_sumUp_108 rfl (lv_at hl 2 rfl) ?_
                      refine lv_dup hx hb dX12_sumUp_109 rfl ?_
                      refine gM_12_17 hx hb ht hown hK hP m_1156 (v := w507_l_12_17) rfl dX12_sumUp_110 ?_
                      refine lv_aload_n hx hb dX12_sumUp_113 rfl (lv_at hl 2 rfl) ?_
                      refine gM_12_8 hx hb ht hown hK hP m_1147 dX12_sumUp_114 ?_
                      refine lv_iload hx hb dX12_sumUp_117 (lv_at hl 1 rfl) ?_
                      refine lM_12_8 hx hb hK hP (f := (fa 12 8)) rfl (vp_in_iff.mpr ⟨by omega, by omega⟩) dX12_sumUp_119 ?_
                      refine lv_topi (fun v525 ev525 => ?_)
                      refine lv_i2l (v := (v525.toInt64)) hx hb dX12_sumUp_120 rfl ?_
                      refine lv_ladd hx hb dX12_sumUp_121 ?_
                      refine lv_topl (fun w526 ew526 => ?_)
                      refine pM_12_17 (v := w526) hx hb ht hown hK hP hD hS m_1156 dX12_sumUp_122 (fun H locs hP hD hS => ?_)
                      have hP : va_P (dC, dI) classes (WM h g ca (u2 iv 12 19 w507_i_12_19) (u2 (u2 lv 12 17 w526) 12 18 w507_l_12_18) fa la) H := hP
                      have hD : va_D A (WM h g ca (u2 iv 12 19 w507_i_12_19) (u2 (u2 lv 12 17 w526) 12 18 w507_l_12_18) fa la) := hD
                      refine lv_aload_n hx hb dX12_sumUp_125 rfl (lv_at hl 2 rfl) ?_
                      refine lv_dup hx hb dX12_sumUp_126 rfl ?_
                      refine gM_12_18 hx hb ht hown hK hP m_1157 (v := w507_l_12_18) rfl dX12_sumUp_127 ?_
                      refine lv_aload_n hx hb dX12_sumUp_130 rfl (lv_at hl 2 rfl) ?_
                      refine gM_12_7 hx hb ht hown hK hP m_1146 dX12_sumUp_131 ?_
                      refine lv_iload hx hb dX12_sumUp_134 (lv_at hl 1 rfl) ?_
                      refine lM_12_7 hx hb hK hP (f := (fa 12 7)) rfl (vp_in_iff.mpr ⟨by omega, by omega⟩) dX12_sumUp_136 ?_
                      refine lv_topi (fun v527 ev527 => ?_)
                      have tv527 : 0 ≤ v527.toInt ∧ v527.toInt ≤ 9999 := by rw [ev527]; exact hI.2 12 7 _
                      have hr9 := hJR (x507_4 : Int32).toNatClampNeg (by show (((x507_4 : Int32).toInt.toNat : Nat) : Int) < _; omega)
                      rw [← ev527] at hr9
                      refine lv_i2l (v := (v527.toInt64)) hx hb dX12_sumUp_137 rfl ?_
                      have : 0 ≤ (w507_l_12_18 : Int64).toInt ∧ (w507_l_12_18 : Int64).toInt ≤ 599940 := ⟨by omega, by omega⟩
                      refine lv_ladd hx hb dX12_sumUp_138 ?_
                      refine lv_topl (fun w528 ew528 => ?_)
                      have tw528 := l_add ew528 (rfl : (w507_l_12_18).toInt = _) ((Int32.toInt_toInt64 v527).trans rfl) (by omega) (by omega)
                      refine pM_12_18 (v := w528) hx hb ht hown hK hP hD hS m_1157 dX12_sumUp_139 (fun H locs hP hD hS => ?_)
                      have hP : va_P (dC, dI) classes (WM h g ca (u2 iv 12 19 w507_i_12_19) (u2 (u2 lv 12 17 w526) 12 18 w528) fa la) H := hP
                      have hD : va_D A (WM h g ca (u2 iv 12 19 w507_i_12_19) (u2 (u2 lv 12 17 w526) 12 18 w528) fa la) := hD
                      refine lv_aload_n hx hb dX12_sumUp_142 rfl (lv_at hl 2 rfl) ?_
                      refine lv_dup hx hb dX12_sumUp_143 rfl ?_
                      refine gM_12_19 hx hb ht hown hK hP m_1158 (v := w507_i_12_19) rfl dX12_sumUp_144 ?_
                      refine lv_iconst (v := 1) hx hb dX12_sumUp_147 (by decide) ?_
                      have : 0 ≤ (w507_i_12_19 : Int32).toInt ∧ (w507_i_12_19 : Int32).toInt ≤ 59 := ⟨by omega, by omega⟩
                      refine lv_iadd hx hb dX12_sumUp_148 ?_
                      refine lv_topi (fun v529 ev529 => ?_)
                      have tv529 := z_add ev529 (rfl : (w507_i_12_19).toInt = _) (by decide : (1 : Int32).toInt = 1) (by omega) (by omega)
                      refine pM_12_19 (v := v529) hx hb ht hown hK hP hD hS m_1158 dX12_sumUp_149 (fun H locs hP hD hS => ?_)
                      have hP : va_P (dC, dI) classes (WM h g ca (u2 iv 12 19 v529) (u2 (u2 lv 12 17 w526) 12 18 w528) fa la) H := hP
                      have hD : va_D A (WM h g ca (u2 iv 12 19 v529) (u2 (u2 lv 12 17 w526) 12 18 w528) fa la) := hD
                      obtain ⟨v530, ev530⟩ : ∃ y : Int32, y = x507_4 + 1 := ⟨_, rfl⟩
                      have tv530 := z_add ev530 rfl (by decide : (1 : Int32).toInt = 1) (by omega) (by omega)
                      refine lv_iinc (v := v530) (lv' := [(4, .int v530), (5, .int 0), (0, .ref h), (1, .int a), (2, .int b), (3, .int d)]) hx hb dX12_sumUp_152 hl (k := 1) rfl (by rw [ev530]; rfl) (by decide) rfl (fun ls hl => ?_)
                      refine lv_goto (tgt := 18) hx hb dX12_sumUp_155 (by decide) ?_
                      exact ih508 v530 v529 w526 w528 ⟨by omega, by omega⟩ (show 0 ≤ (w528 : Int64).toInt from by omega) (show (w528 : Int64).toInt ≤ 9999 * (v530 : Int32).toInt from by omega) (show 100 * (v529 : Int32).toInt ≤ (w528 : Int64).toInt from by omega) (show 0 ≤ (v529 : Int32).toInt from by omega) (show (v529 : Int32).toInt ≤ (v530 : Int32).toInt from by omega) (show (w526 : Int64).toInt = (smL (fun s : Nat => ((fa 12 4) s).toInt = (a).toInt ∧ ((fa 12 5) s).toInt = (b).toInt ∧ ((fa 12 11) s).toInt ≤ (d).toInt ∧ (((fa 12 12) s).toInt < 0 ∨ (d).toInt < ((fa 12 12) s).toInt)) (fa 12 8) ((v530 : Int32).toInt).toNat).toInt from (by
                            have := congrArg Int32.toInt (show v510 = fa 12 9 ((x507_4 : Int32).toInt).toNat from ev510)
                            have := congrArg Int32.toInt (show v512 = fa 12 10 ((x507_4 : Int32).toInt).toNat from ev512)
                            have := congrArg Int32.toInt (show v515 = fa 12 4 ((x507_4 : Int32).toInt).toNat from ev515)
                            have := congrArg Int32.toInt (show v518 = fa 12 5 ((x507_4 : Int32).toInt).toNat from ev518)
                            have y9 : ((r521 : Int32).toInt = 1 ∧ (fa 12 11 ((x507_4 : Int32).toInt).toNat).toInt ≤ (d : Int32).toInt ∧ ((fa 12 12 ((x507_4 : Int32).toInt).toNat).toInt < 0 ∨ (d : Int32).toInt < (fa 12 12 ((x507_4 : Int32).toInt).toNat).toInt)) ∨ ((r521 : Int32).toInt = 0 ∧ ¬ ((fa 12 11 ((x507_4 : Int32).toInt).toNat).toInt ≤ (d : Int32).toInt ∧ ((fa 12 12 ((x507_4 : Int32).toInt).toNat).toInt < 0 ∨ (d : Int32).toInt < (fa 12 12 ((x507_4 : Int32).toInt).toNat).toInt))) := xr521_0
                            have hs9 : ((v530 : Int32).toInt).toNat = ((x507_4 : Int32).toInt).toNat + 1 := by omega
                            have hc : (fa 12 4 ((x507_4 : Int32).toInt).toNat).toInt = a.toInt ∧ (fa 12 5 ((x507_4 : Int32).toInt).toNat).toInt = b.toInt ∧ (fa 12 11 ((x507_4 : Int32).toInt).toNat).toInt ≤ d.toInt ∧ ((fa 12 12 ((x507_4 : Int32).toInt).toNat).toInt < 0 ∨ d.toInt < (fa 12 12 ((x507_4 : Int32).toInt).toNat).toInt) := ⟨by omega, by omega, by omega, by omega⟩
                            have h1 : w507_l_12_17 = smL _ _ _ := Int64.toInt_inj.mp hq508_5
                            rw [smL_y hs9 hc, ← h1, ew526, ev525]; rfl)) (show (w528 : Int64).toInt = (smL (fun s : Nat => ((fa 12 4) s).toInt = (a).toInt ∧ ((fa 12 5) s).toInt = (b).toInt ∧ ((fa 12 11) s).toInt ≤ (d).toInt ∧ (((fa 12 12) s).toInt < 0 ∨ (d).toInt < ((fa 12 12) s).toInt)) (fa 12 7) ((v530 : Int32).toInt).toNat).toInt from (by
                            have := congrArg Int32.toInt (show v510 = fa 12 9 ((x507_4 : Int32).toInt).toNat from ev510)
                            have := congrArg Int32.toInt (show v512 = fa 12 10 ((x507_4 : Int32).toInt).toNat from ev512)
                            have := congrArg Int32.toInt (show v515 = fa 12 4 ((x507_4 : Int32).toInt).toNat from ev515)
                            have := congrArg Int32.toInt (show v518 = fa 12 5 ((x507_4 : Int32).toInt).toNat from ev518)
                            have y9 : ((r521 : Int32).toInt = 1 ∧ (fa 12 11 ((x507_4 : Int32).toInt).toNat).toInt ≤ (d : Int32).toInt ∧ ((fa 12 12 ((x507_4 : Int32).toInt).toNat).toInt < 0 ∨ (d : Int32).toInt < (fa 12 12 ((x507_4 : Int32).toInt).toNat).toInt)) ∨ ((r521 : Int32).toInt = 0 ∧ ¬ ((fa 12 11 ((x507_4 : Int32).toInt).toNat).toInt ≤ (d : Int32).toInt ∧ ((fa 12 12 ((x507_4 : Int32).toInt).toNat).toInt < 0 ∨ (d : Int32).toInt < (fa 12 12 ((x507_4 : Int32).toInt).toNat).toInt))) := xr521_0
                            have hs9 : ((v530 : Int32).toInt).toNat = ((x507_4 : Int32).toInt).toNat + 1 := by omega
                            have hc : (fa 12 4 ((x507_4 : Int32).toInt).toNat).toInt = a.toInt ∧ (fa 12 5 ((x507_4 : Int32).toInt).toNat).toInt = b.toInt ∧ (fa 12 11 ((x507_4 : Int32).toInt).toNat).toInt ≤ d.toInt ∧ ((fa 12 12 ((x507_4 : Int32).toInt).toNat).toInt < 0 ∨ d.toInt < (fa 12 12 ((x507_4 : Int32).toInt).toNat).toInt) := ⟨by omega, by omega, by omega, by omega⟩
                            have h1 : w507_l_12_18 = smL _ _ _ := Int64.toInt_inj.mp hq508_6
                            rw [smL_y hs9 hc, ← h1, ew528, ev527]; rfl)) (show (v529 : Int32).toInt = (smC (fun s : Nat => ((fa 12 4) s).toInt = (a).toInt ∧ ((fa 12 5) s).toInt = (b).toInt ∧ ((fa 12 11) s).toInt ≤ (d).toInt ∧ (((fa 12 12) s).toInt < 0 ∨ (d).toInt < ((fa 12 12) s).toInt)) ((v530 : Int32).toInt).toNat).toInt from (by
                            have := congrArg Int32.toInt (show v510 = fa 12 9 ((x507_4 : Int32).toInt).toNat from ev510)
                            have := congrArg Int32.toInt (show v512 = fa 12 10 ((x507_4 : Int32).toInt).toNat from ev512)
                            have := congrArg Int32.toInt (show v515 = fa 12 4 ((x507_4 : Int32).toInt).toNat from ev515)
                            have := congrArg Int32.toInt (show v518 = fa 12 5 ((x507_4 : Int32).toInt).toNat from ev518)
                            have y9 : ((r521 : Int32).toInt = 1 ∧ (fa 12 11 ((x507_4 : Int32).toInt).toNat).toInt ≤ (d : Int32).toInt ∧ ((fa 12 12 ((x507_4 : Int32).toInt).toNat).toInt < 0 ∨ (d : Int32).toInt < (fa 12 12 ((x507_4 : Int32).toInt).toNat).toInt)) ∨ ((r521 : Int32).toInt = 0 ∧ ¬ ((fa 12 11 ((x507_4 : Int32).toInt).toNat).toInt ≤ (d : Int32).toInt ∧ ((fa 12 12 ((x507_4 : Int32).toInt).toNat).toInt < 0 ∨ (d : Int32).toInt < (fa 12 12 ((x507_4 : Int32).toInt).toNat).toInt))) := xr521_0
                            have hs9 : ((v530 : Int32).toInt).toNat = ((x507_4 : Int32).toInt).toNat + 1 := by omega
                            have hc : (fa 12 4 ((x507_4 : Int32).toInt).toNat).toInt = a.toInt ∧ (fa 12 5 ((x507_4 : Int32).toInt).toNat).toInt = b.toInt ∧ (fa 12 11 ((x507_4 : Int32).toInt).toNat).toInt ≤ d.toInt ∧ ((fa 12 12 ((x507_4 : Int32).toInt).toNat).toInt < 0 ∨ d.toInt < (fa 12 12 ((x507_4 : Int32).toInt).toNat).toInt) := ⟨by omega, by omega, by omega, by omega⟩
                            have h1 : w507_i_12_19 = smC _ _ := Int32.toInt_inj.mp hq508_7
                            rw [smC_y hs9 hc, ← h1, ev529])) (show (v530 : Int32).toInt ≤ ((iv 12 3) : Int32).toInt from by omega) (by omega) _ _ ls hP hD hS (lv_sub hl [0, 2, 3, 4, 5] rfl)
            · have fc514 := z_eq (rfl : (x507_4).toInt = _) (rfl : ((iv 12 22)).toInt = _) c514; exfalso; omega
  have : (0 : Int32).toInt = 0 := (by decide)
  have : (0 : Int64).toInt = 0 := (by decide)
  have i_12_3 : 0 ≤ (iv 12 3).toInt ∧ (iv 12 3).toInt ≤ 60 := hI.1 12 3
  exact lp508 61 0 0 0 0 ⟨by decide, by decide⟩ (show 0 ≤ (0 : Int64).toInt from by omega) (show (0 : Int64).toInt ≤ 9999 * (0 : Int32).toInt from by omega) (show 100 * (0 : Int32).toInt ≤ (0 : Int64).toInt from by omega) (show 0 ≤ (0 : Int32).toInt from by omega) (show (0 : Int32).toInt ≤ (0 : Int32).toInt from by omega) (show (0 : Int64).toInt = (smL (fun s : Nat => ((fa 12 4) s).toInt = (a).toInt ∧ ((fa 12 5) s).toInt = (b).toInt ∧ ((fa 12 11) s).toInt ≤ (d).toInt ∧ (((fa 12 12) s).toInt < 0 ∨ (d).toInt < ((fa 12 12) s).toInt)) (fa 12 8) ((0 : Int32).toInt).toNat).toInt from (by have hz : ((0 : Int32).toInt).toNat = 0 := (by decide); rw [hz]; exact (by decide : (0 : Int64).toInt = 0))) (show (0 : Int64).toInt = (smL (fun s : Nat => ((fa 12 4) s).toInt = (a).toInt ∧ ((fa 12 5) s).toInt = (b).toInt ∧ ((fa 12 11) s).toInt ≤ (d).toInt ∧ (((fa 12 12) s).toInt < 0 ∨ (d).toInt < ((fa 12 12) s).toInt)) (fa 12 7) ((0 : Int32).toInt).toNat).toInt from (by have hz : ((0 : Int32).toInt).toNat = 0 := (by decide); rw [hz]; exact (by decide : (0 : Int64).toInt = 0))) (show (0 : Int32).toInt = (smC (fun s : Nat => ((fa 12 4) s).toInt = (a).toInt ∧ ((fa 12 5) s).toInt = (b).toInt ∧ ((fa 12 11) s).toInt ≤ (d).toInt ∧ (((fa 12 12) s).toInt < 0 ∨ (d).toInt < ((fa 12 12) s).toInt)) ((0 : Int32).toInt).toNat).toInt from (by have hz : ((0 : Int32).toInt).toNat = 0 := (by decide); rw [hz]; exact (by decide : (0 : Int32).toInt = 0))) (show (0 : Int32).toInt ≤ ((iv 12 3) : Int32).toInt from by omega) (by first | decide | omega) _ _ ls hP hD hS (lv_sub hl [0, 1, 2, 3, 4] rfl)
