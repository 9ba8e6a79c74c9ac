/-! ===== ho3 ===== -/
set_option maxHeartbeats 4000000 in
set_option maxRecDepth 100000 in
/-- X12_findSpan -/
theorem c_X12_findSpan_h (l : Launch) (dC : Nat → ClassId) (dI : Nat → Nat → Nat) (sz : Nat) (h : Nat) (g : Nat → Nat → Nat) (ca : Nat → Nat → ClassId) (iv : Nat → Nat → Int32) (lv : Nat → Nat → Int64) (fa : Nat → Nat → Nat → Int32) (la : Nat → Nat → Nat → Int64) (hI : IX iv fa) (a : Int32) : Met l yX12_findSpan (wc yX12_findSpan cX12_findSpan 3 (some .boolean)) ({ frames := 0, cells := 0, slots := 0, locals := 0 } : Room) (pW (dC, dI) classes (WM h g ca iv lv fa la) (TM ca) sz [.ref h, .int a]) (va_Qi (fun r (u : SS) => ∃ (ni_12_65 : Int32) (ni_12_66 : Int32), (Mx (fa 12 63) a.toInt ((iv 12 62).toInt).toNat (-20000) (ni_12_65).toInt) ∧ (Mn (fa 12 64) a.toInt ((iv 12 62).toInt).toNat 20000 (ni_12_66).toInt) ∧ (((r.toInt = 1 ∧ (ni_12_65).toInt ≤ (ni_12_66).toInt) ∨ (r.toInt = 0 ∧ (ni_12_66).toInt < (ni_12_65).toInt))) ∧ (0 ≤ r.toInt ∧ r.toInt ≤ 1) ∧ u = ((u2 (u2 iv 12 65 ni_12_65) 12 66 ni_12_66), lv, fa, la)) (bM (dC, dI) h g ca (va_A (WM h g ca iv lv fa la) sz)) (va_A (WM h g ca iv lv fa la) sz)) 0 0 (va_A (WM h g ca iv lv fa la) sz) := by
  refine Met.ofW (cc := cX12_findSpan) (maxL := 3) (ret := (some .boolean)) (by decide) rfl ?_
  intro p e s m args below meth c s₁ B hml hv
  obtain ⟨rfl, hsz, hP, hK, hD0⟩ := hv
  have hx := B.exec
  have hb := B.bytes
  have hr := B.returns
  have ht := tb_tl (atoms_spec (ws := wc yX12_findSpan cX12_findSpan 3 (some .boolean)) B.pre)
  have hown : s.vm.findClass RX12 = some m.cls := findClass_of_methodNamed B.named
  have hlocks := B.notSynchronized
  subst hsz
  have hD := hD0.self (sz := s.heap.size)
  generalize hAe : va_A (WM h g ca iv lv fa la) s.heap.size = A at hD ⊢
  have hA : ∀ q : Nat, s.heap.size ≤ q → A q := fun q h => by rw [← hAe]; exact Or.inr h
  have hS : va_S A s.heap s.heap [] := va_S.rf
  have hl := lv_entry [.ref h, .int a] (n := 3) (Nat.le_of_ble_eq_true rfl)
  rw [lg_entry_eq]
  generalize (lg_sl [.ref h, .int a] ++ List.replicate (3 - (lg_sl [.ref h, .int a]).length) Slot.unset).toArray = ls at hl ⊢
  have hl : lv_has ls 3 [(0, .ref h), (1, .int a)] := hl
  refine lv_aload_n hx hb dX12_findSpan_0 rfl (lv_at hl 0 rfl) ?_
  refine lv_sipush (v := (-20000)) hx hb dX12_findSpan_1 (by decide) ?_
  refine pM_12_65 (v := (-20000)) hx hb ht hown hK hP hD hS m_1204 dX12_findSpan_4 (fun H locs hP hD hS => ?_)
  refine lv_aload_n hx hb dX12_findSpan_7 rfl (lv_at hl 0 rfl) ?_
  refine lv_sipush (v := 20000) hx hb dX12_findSpan_8 (by decide) ?_
  refine pM_12_66 (v := 20000) hx hb ht hown hK hP hD hS m_1205 dX12_findSpan_11 (fun H locs hP hD hS => ?_)
  refine lv_iconst (v := 0) hx hb dX12_findSpan_14 (by decide) ?_
  refine lv_istore_n (lv' := [(2, .int 0), (0, .ref h), (1, .int a)]) hx hb dX12_findSpan_15 rfl hl (by decide) rfl (fun ls hl => ?_)
  have i_12_62 : 0 ≤ (iv 12 62).toInt ∧ (iv 12 62).toInt ≤ 8 := hI.1 12 62
  have lp182 : ∀ (nn182 : Nat) (x181_2 : Int32) (w181_i_12_66 : Int32) (w181_i_12_65 : Int32), 0 ≤ x181_2.toInt ∧ x181_2.toInt ≤ 8 → (Mx (fa 12 63) (a).toInt ((x181_2 : Int32).toInt).toNat (-20000) (w181_i_12_65 : Int32).toInt) → (Mn (fa 12 64) (a).toInt ((x181_2 : Int32).toInt).toNat 20000 (w181_i_12_66 : Int32).toInt) → (x181_2 : Int32).toInt ≤ ((iv 12 62) : Int32).toInt → 8 - x181_2.toInt < (nn182 : Int) → ∀ (H : Heap) (locs : List Loc), ∀ (ls : Array Slot), va_P (dC, dI) classes (WM h g ca (u2 (u2 iv 12 65 w181_i_12_65) 12 66 w181_i_12_66) lv fa la) H → va_D A (WM h g ca (u2 (u2 iv 12 65 w181_i_12_65) 12 66 w181_i_12_66) lv fa la) → va_S A s.heap H locs → lv_has ls 3 [(2, .int x181_2), (0, .ref h), (1, .int a)] → W p l e ({ frames := 0, cells := 0, slots := 0, locals := 0 } : Room) s m ([.ref h, .int a] : List Value).toArray below meth c H locs 0 0 (MQ below (va_Qi (fun r (u : SS) => ∃ (ni_12_65 : Int32) (ni_12_66 : Int32), (Mx (fa 12 63) a.toInt ((iv 12 62).toInt).toNat (-20000) (ni_12_65).toInt) ∧ (Mn (fa 12 64) a.toInt ((iv 12 62).toInt).toNat 20000 (ni_12_66).toInt) ∧ (((r.toInt = 1 ∧ (ni_12_65).toInt ≤ (ni_12_66).toInt) ∨ (r.toInt = 0 ∧ (ni_12_66).toInt < (ni_12_65).toInt))) ∧ (0 ≤ r.toInt ∧ r.toInt ≤ 1) ∧ u = ((u2 (u2 iv 12 65 ni_12_65) 12 66 ni_12_66), lv, fa, la)) (bM (dC, dI) h g ca A) A) ([.ref h, .int a] : List Value).toArray s 0 0 A) (F0 m 16 ls []) := by
    intro nn182
    induction nn182 with
    | zero => intro x181_2 w181_i_12_66 w181_i_12_65 hx181_2 hq182_0 hq182_1 hq182_2 hm182; exfalso; omega
    | succ nn182 ih182 =>
      intro x181_2 w181_i_12_66 w181_i_12_65 hx181_2 hq182_0 hq182_1 hq182_2 hm182 H locs ls hP hD hS hl
      refine lv_iload_n hx hb dX12_findSpan_16 rfl (lv_at hl 0 rfl) ?_
      refine lv_aload_n hx hb dX12_findSpan_17 rfl (lv_at hl 1 rfl) ?_
      refine gM_12_62 hx hb ht hown hK hP m_1201 (v := (iv 12 62)) rfl dX12_findSpan_18 ?_
      refine lv_icmp_ge (tgt := 98) hx hb dX12_findSpan_21 (by decide) (fun c183 => ?_) (fun c183 => ?_)
      · have fc183 := z_le (rfl : ((iv 12 62)).toInt = _) (rfl : (x181_2).toInt = _) c183
        refine lv_aload_n hx hb dX12_findSpan_98 rfl (lv_at hl 1 rfl) ?_
        refine gM_12_65 hx hb ht hown hK hP m_1204 (v := w181_i_12_65) rfl dX12_findSpan_99 ?_
        refine lv_aload_n hx hb dX12_findSpan_102 rfl (lv_at hl 1 rfl) ?_
        refine gM_12_66 hx hb ht hown hK hP m_1205 (v := w181_i_12_66) rfl dX12_findSpan_103 ?_
        refine lv_icmp_gt (tgt := 113) hx hb dX12_findSpan_106 (by decide) (fun c184 => ?_) (fun c184 => ?_)
        · have fc184 := z_lt (rfl : (w181_i_12_66).toInt = _) (rfl : (w181_i_12_65).toInt = _) c184
          refine lv_iconst (v := 0) hx hb dX12_findSpan_113 (by decide) ?_
          have : (0 : Int32).toInt = 0 := (by decide)
          have hP9 : va_P (dC, dI) classes (WM h g ca (u2 (u2 iv 12 65 w181_i_12_65) 12 66 w181_i_12_66) lv fa la) H := hP
          have hD9 : va_D A (WM h g ca (u2 (u2 iv 12 65 w181_i_12_65) 12 66 w181_i_12_66) lv fa la) := hD
          exact W.zret (v := 0) hx hb hr rfl (fun t ht9 hW => ⟨⟨0, ((u2 (u2 iv 12 65 w181_i_12_65) 12 66 w181_i_12_66), lv, fa, la), rfl, ⟨w181_i_12_65, w181_i_12_66, (show Mx (fa 12 63) (a).toInt (((iv 12 62) : Int32).toInt).toNat (-20000) (w181_i_12_65 : Int32).toInt from (by have hq9 := hq182_0; have he9 : (x181_2 : Int32).toInt = (iv 12 62).toInt := (by omega); rw [he9] at hq9; exact hq9)), (show Mn (fa 12 64) (a).toInt (((iv 12 62) : Int32).toInt).toNat 20000 (w181_i_12_66 : Int32).toInt from (by have hq9 := hq182_1; have he9 : (x181_2 : Int32).toInt = (iv 12 62).toInt := (by omega); rw [he9] at hq9; exact hq9)), (show (((0 : Int32).toInt = 1 ∧ (w181_i_12_65 : Int32).toInt ≤ (w181_i_12_66 : Int32).toInt) ∨ ((0 : Int32).toInt = 0 ∧ (w181_i_12_66 : Int32).toInt < (w181_i_12_65 : Int32).toInt)) from by omega), ⟨by decide, by decide⟩, rfl⟩, by rw [ht9]; exact hP9, hD9⟩, hS.F ht9⟩) hS.2.2 dX12_findSpan_114
        · have fc184 := z_nlt (rfl : (w181_i_12_66).toInt = _) (rfl : (w181_i_12_65).toInt = _) c184
          refine lv_iconst (v := 1) hx hb dX12_findSpan_109 (by decide) ?_
          refine lv_goto (tgt := 114) hx hb dX12_findSpan_110 (by decide) ?_
          have : (1 : Int32).toInt = 1 := (by decide)
          have hP9 : va_P (dC, dI) classes (WM h g ca (u2 (u2 iv 12 65 w181_i_12_65) 12 66 w181_i_12_66) lv fa la) H := hP
          have hD9 : va_D A (WM h g ca (u2 (u2 iv 12 65 w181_i_12_65) 12 66 w181_i_12_66) lv fa la) := hD
          exact W.zret (v := 1) hx hb hr rfl (fun t ht9 hW => ⟨⟨1, ((u2 (u2 iv 12 65 w181_i_12_65) 12 66 w181_i_12_66), lv, fa, la), rfl, ⟨w181_i_12_65, w181_i_12_66, (show Mx (fa 12 63) (a).toInt (((iv 12 62) : Int32).toInt).toNat (-20000) (w181_i_12_65 : Int32).toInt from (by have hq9 := hq182_0; have he9 : (x181_2 : Int32).toInt = (iv 12 62).toInt := (by omega); rw [he9] at hq9; exact hq9)), (show Mn (fa 12 64) (a).toInt (((iv 12 62) : Int32).toInt).toNat 20000 (w181_i_12_66 : Int32).toInt from (by have hq9 := hq182_1; have he9 : (x181_2 : Int32).toInt = (iv 12 62).toInt := (by omega); rw [he9] at hq9; exact hq9)), (show (((1 : Int32).toInt = 1 ∧ (w181_i_12_65 : Int32).toInt ≤ (w181_i_12_66 : Int32).toInt) ∨ ((1 : Int32).toInt = 0 ∧ (w181_i_12_66 : Int32).toInt < (w181_i_12_65 : Int32).toInt)) from by omega), ⟨by decide, by decide⟩, rfl⟩, by rw [ht9]; exact hP9, hD9⟩, hS.F ht9⟩) hS.2.2 dX12_findSpan_114
      · have fc183 := z_nle (rfl : ((iv 12 62)).toInt = _) (rfl : (x181_2).toInt = _) c183
        refine lv_iload_n hx hb dX12_findSpan_24 rfl (lv_at hl 2 rfl) ?_
        refine lv_iload_n hx hb dX12_findSpan_25 rfl (lv_at hl 0 rfl) ?_
        refine lv_ishr hx hb dX12_findSpan_26 ?_
        refine lv_topi (fun v185 ev185 => ?_)
        refine lv_iconst (v := 1) hx hb dX12_findSpan_27 (by decide) ?_
        refine lv_iand hx hb dX12_findSpan_28 ?_
        refine lv_topi (fun v186 ev186 => ?_)
        refine lv_if_ne (tgt := 92) hx hb dX12_findSpan_29 (by decide) (fun c187 => ?_) (fun c187 => ?_)
        · have fc187 := z_ne (rfl : (v186).toInt = _) (by decide : (0 : Int32).toInt = 0) c187
          obtain ⟨v188, ev188⟩ : ∃ y : Int32, y = x181_2 + 1 := ⟨_, rfl⟩
          have tv188 := z_add ev188 rfl (by decide : (1 : Int32).toInt = 1) (by omega) (by omega)
          refine lv_iinc (v := v188) (lv' := [(2, .int v188), (0, .ref h), (1, .int a)]) hx hb dX12_findSpan_92 hl (k := 0) rfl (by rw [ev188]; rfl) (by decide) rfl (fun ls hl => ?_)
          refine lv_goto (tgt := 16) hx hb dX12_findSpan_95 (by decide) ?_
          exact ih182 v188 w181_i_12_66 w181_i_12_65 ⟨by omega, by omega⟩ (show Mx (fa 12 63) (a).toInt ((v188 : Int32).toInt).toNat (-20000) (w181_i_12_65 : Int32).toInt from (by have hb9 := cr_of (o := a) (k := x181_2) (v := v186) (by rw [ev186, ev185]; rfl) (by omega); exact Mx_n (show ((v188 : Int32).toInt).toNat = ((x181_2 : Int32).toInt).toNat + 1 from by omega) (fun z => by have := hb9.mpr z; omega) hq182_0)) (show Mn (fa 12 64) (a).toInt ((v188 : Int32).toInt).toNat 20000 (w181_i_12_66 : Int32).toInt from (by have hb9 := cr_of (o := a) (k := x181_2) (v := v186) (by rw [ev186, ev185]; rfl) (by omega); exact Mn_n (show ((v188 : Int32).toInt).toNat = ((x181_2 : Int32).toInt).toNat + 1 from by omega) (fun z => by have := hb9.mpr z; omega) hq182_1)) (show (v188 : Int32).toInt ≤ ((iv 12 62) : Int32).toInt from by omega) (by omega) _ _ ls hP hD hS (lv_sub hl [0, 1, 2] rfl)
        · have fc187 := z_eq (rfl : (v186).toInt = _) (by decide : (0 : Int32).toInt = 0) c187
          refine lv_aload_n hx hb dX12_findSpan_32 rfl (lv_at hl 1 rfl) ?_
          refine lv_aload_n hx hb dX12_findSpan_33 rfl (lv_at hl 1 rfl) ?_
          refine gM_12_63 hx hb ht hown hK hP m_1202 dX12_findSpan_34 ?_
          refine lv_iload_n hx hb dX12_findSpan_37 rfl (lv_at hl 0 rfl) ?_
          refine lM_12_63 hx hb hK hP (f := (fa 12 63)) rfl (vp_in_iff.mpr ⟨by omega, by omega⟩) dX12_findSpan_38 ?_
          refine lv_topi (fun v189 ev189 => ?_)
          refine lv_aload_n hx hb dX12_findSpan_39 rfl (lv_at hl 1 rfl) ?_
          refine gM_12_65 hx hb ht hown hK hP m_1204 (v := w181_i_12_65) rfl dX12_findSpan_40 ?_
          refine lv_icmp_le (tgt := 55) hx hb dX12_findSpan_43 (by decide) (fun c190 => ?_) (fun c190 => ?_)
          · have fc190 := z_le (rfl : (v189).toInt = _) (rfl : (w181_i_12_65).toInt = _) c190
            refine lv_aload_n hx hb dX12_findSpan_55 rfl (lv_at hl 1 rfl) ?_
            refine gM_12_65 hx hb ht hown hK hP m_1204 (v := w181_i_12_65) rfl dX12_findSpan_56 ?_
            refine pM_12_65 (v := w181_i_12_65) hx hb ht hown hK hP hD hS m_1204 dX12_findSpan_59 (fun H locs hP hD hS => ?_)
            have hP : va_P (dC, dI) classes (WM h g ca (u2 (u2 iv 12 65 w181_i_12_65) 12 66 w181_i_12_66) lv fa la) H := hP
            have hD : va_D A (WM h g ca (u2 (u2 iv 12 65 w181_i_12_65) 12 66 w181_i_12_66) lv fa la) := hD
            refine lv_aload_n hx hb dX12_findSpan_62 rfl (lv_at hl 1 rfl) ?_
            refine lv_aload_n hx hb dX12_findSpan_63 rfl (lv_at hl 1 rfl) ?_
            refine gM_12_64 hx hb ht hown hK hP m_1203 dX12_findSpan_64 ?_
            refine lv_iload_n hx hb dX12_findSpan_67 rfl (lv_at hl 0 rfl) ?_
            refine lM_12_64 hx hb hK hP (f := (fa 12 64)) rfl (vp_in_iff.mpr ⟨by omega, by omega⟩) dX12_findSpan_68 ?_
            refine lv_topi (fun v191 ev191 => ?_)
            refine lv_aload_n hx hb dX12_findSpan_69 rfl (lv_at hl 1 rfl) ?_
            refine gM_12_66 hx hb ht hown hK hP m_1205 (v := w181_i_12_66) rfl dX12_findSpan_70 ?_
            refine lv_icmp_ge (tgt := 85) hx hb dX12_findSpan_73 (by decide) (fun c192 => ?_) (fun c192 => ?_)
            · have fc192 := z_le (rfl : (w181_i_12_66).toInt = _) (rfl : (v191).toInt = _) c192
              refine lv_aload_n hx hb dX12_findSpan_85 rfl (lv_at hl 1 rfl) ?_
              refine gM_12_66 hx hb ht hown hK hP m_1205 (v := w181_i_12_66) rfl dX12_findSpan_86 ?_
              refine pM_12_66 (v := w181_i_12_66) hx hb ht hown hK hP hD hS m_1205 dX12_findSpan_89 (fun H locs hP hD hS => ?_)
              have hP : va_P (dC, dI) classes (WM h g ca (u2 (u2 iv 12 65 w181_i_12_65) 12 66 w181_i_12_66) lv fa la) H := hP
              have hD : va_D A (WM h g ca (u2 (u2 iv 12 65 w181_i_12_65) 12 66 w181_i_12_66) lv fa la) := hD
              obtain ⟨v193, ev193⟩ : ∃ y : Int32, y = x181_2 + 1 := ⟨_, rfl⟩
              have tv193 := z_add ev193 rfl (by decide : (1 : Int32).toInt = 1) (by omega) (by omega)
              refine lv_iinc (v := v193) (lv' := [(2, .int v193), (0, .ref h), (1, .int a)]) hx hb dX12_findSpan_92 hl (k := 0) rfl (by rw [ev193]; rfl) (by decide) rfl (fun ls hl => ?_)
              refine lv_goto (tgt := 16) hx hb dX12_findSpan_95 (by decide) ?_
              exact ih182 v193 w181_i_12_66 w181_i_12_65 ⟨by omega, by omega⟩ (show Mx (fa 12 63) (a).toInt ((v193 : Int32).toInt).toNat (-20000) (w181_i_12_65 : Int32).toInt from (by have hb9 := cr_of (o := a) (k := x181_2) (v := v186) (by rw [ev186, ev185]; rfl) (by omega); have hx9 := congrArg Int32.toInt (show v189 = fa 12 63 (((x181_2 : Int32).toInt).toNat) from ev189); exact Mx_y (show ((v193 : Int32).toInt).toNat = ((x181_2 : Int32).toInt).toNat + 1 from by omega) (hb9.mp (by omega)) hq182_0 (by omega) (by omega) (by omega))) (show Mn (fa 12 64) (a).toInt ((v193 : Int32).toInt).toNat 20000 (w181_i_12_66 : Int32).toInt from (by have hb9 := cr_of (o := a) (k := x181_2) (v := v186) (by rw [ev186, ev185]; rfl) (by omega); have hx9 := congrArg Int32.toInt (show v191 = fa 12 64 (((x181_2 : Int32).toInt).toNat) from ev191); exact Mn_y (show ((v193 : Int32).toInt).toNat = ((x181_2 : Int32).toInt).toNat + 1 from by omega) (hb9.mp (by omega)) hq182_1 (by omega) (by omega) (by omega))) (show (v193 : Int32).toInt ≤ ((iv 12 62) : Int32).toInt from by omega) (by omega) _ _ ls hP hD hS (lv_sub hl [0, 1, 2] rfl)
            · have fc192 := z_nle (rfl : (w181_i_12_66).toInt = _) (rfl : (v191).toInt = _) c192
              refine lv_aload_n hx hb dX12_findSpan_76 rfl (lv_at hl 1 rfl) ?_
              refine gM_12_64 hx hb ht hown hK hP m_1203 dX12_findSpan_77 ?_
              refine lv_iload_n hx hb dX12_findSpan_80 rfl (lv_at hl 0 rfl) ?_
              refine lM_12_64 hx hb hK hP (f := (fa 12 64)) rfl (vp_in_iff.mpr ⟨by omega, by omega⟩) dX12_findSpan_81 ?_
              refine lv_topi (fun v194 ev194 => ?_)
              obtain rfl : v191 = v194 := ev191.trans ev194.symm
              refine lv_goto (tgt := 89) hx hb dX12_findSpan_82 (by decide) ?_
              refine pM_12_66 (v := v191) hx hb ht hown hK hP hD hS m_1205 dX12_findSpan_89 (fun H locs hP hD hS => ?_)
              have hP : va_P (dC, dI) classes (WM h g ca (u2 (u2 iv 12 65 w181_i_12_65) 12 66 v191) lv fa la) H := hP
              have hD : va_D A (WM h g ca (u2 (u2 iv 12 65 w181_i_12_65) 12 66 v191) lv fa la) := hD
              obtain ⟨v195, ev195⟩ : ∃ y : Int32, y = x181_2 + 1 := ⟨_, rfl⟩
              have tv195 := z_add ev195 rfl (by decide : (1 : Int32).toInt = 1) (by omega) (by omega)
              refine lv_iinc (v := v195) (lv' := [(2, .int v195), (0, .ref h), (1, .int a)]) hx hb dX12_findSpan_92 hl (k := 0) rfl (by rw [ev195]; rfl) (by decide) rfl (fun ls hl => ?_)
              refine lv_goto (tgt := 16) hx hb dX12_findSpan_95 (by decide) ?_
              exact ih182 v195 v191 w181_i_12_65 ⟨by omega, by omega⟩ (show Mx (fa 12 63) (a).toInt ((v195 : Int32).toInt).toNat (-20000) (w181_i_12_65 : Int32).toInt from (by have hb9 := cr_of (o := a) (k := x181_2) (v := v186) (by rw [ev186, ev185]; rfl) (by omega); have hx9 := congrArg Int32.toInt (show v189 = fa 12 63 (((x181_2 : Int32).toInt).toNat) from ev189); exact Mx_y (show ((v195 : Int32).toInt).toNat = ((x181_2 : Int32).toInt).toNat + 1 from by omega) (hb9.mp (by omega)) hq182_0 (by omega) (by omega) (by omega))) (show Mn (fa 12 64) (a).toInt ((v195 : Int32).toInt).toNat 20000 (v191 : Int32).toInt from (by have hb9 := cr_of (o := a) (k := x181_2) (v := v186) (by rw [ev186, ev185]; rfl) (by omega); have hx9 := congrArg Int32.toInt (show v191 = fa 12 64 (((x181_2 : Int32).toInt).toNat) from ev191); exact Mn_y (show ((v195 : Int32).toInt).toNat = ((x181_2 : Int32).toInt).toNat + 1 from by omega) (hb9.mp (by omega)) hq182_1 (by omega) (by omega) (by omega))) (show (v195 : Int32).toInt ≤ ((iv 12 62) : Int32).toInt from by omega) (by omega) _ _ ls hP hD hS (lv_sub hl [0, 1, 2] rfl)
          · have fc190 := z_nle (rfl : (v189).toInt = _) (rfl : (w181_i_12_65).toInt = _) c190
            refine lv_aload_n hx hb dX12_findSpan_46 rfl (lv_at hl 1 rfl) ?_
            refine gM_12_63 hx hb ht hown hK hP m_1202 dX12_findSpan_47 ?_
            refine lv_iload_n hx hb dX12_findSpan_50 rfl (lv_at hl 0 rfl) ?_
            refine lM_12_63 hx hb hK hP (f := (fa 12 63)) rfl (vp_in_iff.mpr ⟨by omega, by omega⟩) dX12_findSpan_51 ?_
            refine lv_topi (fun v196 ev196 => ?_)
            obtain rfl : v189 = v196 := ev189.trans ev196.symm
            refine lv_goto (tgt := 59) hx hb dX12_findSpan_52 (by decide) ?_
            refine pM_12_65 (v := v189) hx hb ht hown hK hP hD hS m_1204 dX12_findSpan_59 (fun H locs hP hD hS => ?_)
            have hP : va_P (dC, dI) classes (WM h g ca (u2 (u2 iv 12 65 v189) 12 66 w181_i_12_66) lv fa la) H := hP
            have hD : va_D A (WM h g ca (u2 (u2 iv 12 65 v189) 12 66 w181_i_12_66) lv fa la) := hD
            refine lv_aload_n hx hb dX12_findSpan_62 rfl (lv_at hl 1 rfl) ?_
            refine lv_aload_n hx hb dX12_findSpan_63 rfl (lv_at hl 1 rfl) ?_
            refine gM_12_64 hx hb ht hown hK hP m_1203 dX12_findSpan_64 ?_
            refine lv_iload_n hx hb dX12_findSpan_67 rfl (lv_at hl 0 rfl) ?_
            refine lM_12_64 hx hb hK hP (f := (fa 12 64)) rfl (vp_in_iff.mpr ⟨by omega, by omega⟩) dX12_findSpan_68 ?_
            refine lv_topi (fun v197 ev197 => ?_)
            refine lv_aload_n hx hb dX12_findSpan_69 rfl (lv_at hl 1 rfl) ?_
            refine gM_12_66 hx hb ht hown hK hP m_1205 (v := w181_i_12_66) rfl dX12_findSpan_70 ?_
            refine lv_icmp_ge (tgt := 85) hx hb dX12_findSpan_73 (by decide) (fun c198 => ?_) (fun c198 => ?_)
            · have fc198 := z_le (rfl : (w181_i_12_66).toInt = _) (rfl : (v197).toInt = _) c198
              refine lv_aload_n hx hb dX12_findSpan_85 rfl (lv_at hl 1 rfl) ?_
              refine gM_12_66 hx hb ht hown hK hP m_1205 (v := w181_i_12_66) rfl dX12_findSpan_86 ?_
              refine pM_12_66 (v := w181_i_12_66) hx hb ht hown hK hP hD hS m_1205 dX12_findSpan_89 (fun H locs hP hD hS => ?_)
              have hP : va_P (dC, dI) classes (WM h g ca (u2 (u2 iv 12 65 v189) 12 66 w181_i_12_66) lv fa la) H := hP
              have hD : va_D A (WM h g ca (u2 (u2 iv 12 65 v189) 12 66 w181_i_12_66) lv fa la) := hD
              obtain ⟨v199, ev199⟩ : ∃ y : Int32, y = x181_2 + 1 := ⟨_, rfl⟩
              have tv199 := z_add ev199 rfl (by decide : (1 : Int32).toInt = 1) (by omega) (by omega)
              refine lv_iinc (v := v199) (lv' := [(2, .int v199), (0, .ref h), (1, .int a)]) hx hb dX12_findSpan_92 hl (k := 0) rfl (by rw [ev199]; rfl) (by decide) rfl (fun ls hl => ?_)
              refine lv_goto (tgt := 16) hx hb dX12_findSpan_95 (by decide) ?_
              exact ih182 v199 w181_i_12_66 v189 ⟨by omega, by omega⟩ (show Mx (fa 12 63) (a).toInt ((v199 : Int32).toInt).toNat (-20000) (v189 : Int32).toInt from (by have hb9 := cr_of (o := a) (k := x181_2) (v := v186) (by rw [ev186, ev185]; rfl) (by omega); have hx9 := congrArg Int32.toInt (show v189 = fa 12 63 (((x181_2 : Int32).toInt).toNat) from ev189); exact Mx_y (show ((v199 : Int32).toInt).toNat = ((x181_2 : Int32).toInt).toNat + 1 from by omega) (hb9.mp (by omega)) hq182_0 (by omega) (by omega) (by omega))) (show Mn (fa 12 64) (a).toInt ((v199 : Int32).toInt).toNat 20000 (w181_i_12_66 : Int32).toInt from (by have hb9 := cr_of (o := a) (k := x181_2) (v := v186) (by rw [ev186, ev185]; rfl) (by omega); have hx9 := congrArg Int32.toInt (show v197 = fa 12 64 (((x181_2 : Int32).toInt).toNat) from ev197); exact Mn_y (show ((v199 : Int32).toInt).toNat = ((x181_2 : Int32).toInt).toNat + 1 from by omega) (hb9.mp (by omega)) hq182_1 (by omega) (by omega) (by omega))) (show (v199 : Int32).toInt ≤ ((iv 12 62) : Int32).toInt from by omega) (by omega) _ _ ls hP hD hS (lv_sub hl [0, 1, 2] rfl)
            · have fc198 := z_nle (rfl : (w181_i_12_66).toInt = _) (rfl : (v197).toInt = _) c198
              refine lv_aload_n hx hb dX12_findSpan_76 rfl (lv_at hl 1 rfl) ?_
              refine gM_12_64 hx hb ht hown hK hP m_1203 dX12_findSpan_77 ?_
              refine lv_iload_n hx hb dX12_findSpan_80 rfl (lv_at hl 0 rfl) ?_
              refine lM_12_64 hx hb hK hP (f := (fa 12 64)) rfl (vp_in_iff.mpr ⟨by omega, by omega⟩) dX12_findSpan_81 ?_
              refine lv_topi (fun v200 ev200 => ?_)
              obtain rfl : v197 = v200 := ev197.trans ev200.symm
              refine lv_goto (tgt := 89) hx hb dX12_findSpan_82 (by decide) ?_
              refine pM_12_66 (v := v197) hx hb ht hown hK hP hD hS m_1205 dX12_findSpan_89 (fun H locs hP hD hS => ?_)
              have hP : va_P (dC, dI) classes (WM h g ca (u2 (u2 iv 12 65 v189) 12 66 v197) lv fa la) H := hP
              have hD : va_D A (WM h g ca (u2 (u2 iv 12 65 v189) 12 66 v197) lv fa la) := hD
              obtain ⟨v201, ev201⟩ : ∃ y : Int32, y = x181_2 + 1 := ⟨_, rfl⟩
              have tv201 := z_add ev201 rfl (by decide : (1 : Int32).toInt = 1) (by omega) (by omega)
              refine lv_iinc (v := v201) (lv' := [(2, .int v201), (0, .ref h), (1, .int a)]) hx hb dX12_findSpan_92 hl (k := 0) rfl (by rw [ev201]; rfl) (by decide) rfl (fun ls hl => ?_)
              refine lv_goto (tgt := 16) hx hb dX12_findSpan_95 (by decide) ?_
              exact ih182 v201 v197 v189 ⟨by omega, by omega⟩ (show Mx (fa 12 63) (a).toInt ((v201 : Int32).toInt).toNat (-20000) (v189 : Int32).toInt from (by have hb9 := cr_of (o := a) (k := x181_2) (v := v186) (by rw [ev186, ev185]; rfl) (by omega); have hx9 := congrArg Int32.toInt (show v189 = fa 12 63 (((x181_2 : Int32).toInt).toNat) from ev189); exact Mx_y (show ((v201 : Int32).toInt).toNat = ((x181_2 : Int32).toInt).toNat + 1 from by omega) (hb9.mp (by omega)) hq182_0 (by omega) (by omega) (by omega))) (show Mn (fa 12 64) (a).toInt ((v201 : Int32).toInt).toNat 20000 (v197 : Int32).toInt from (by have hb9 := cr_of (o := a) (k := x181_2) (v := v186) (by rw [ev186, ev185]; rfl) (by omega); have hx9 := congrArg Int32.toInt (show v197 = fa 12 64 (((x181_2 : Int32).toInt).toNat) from ev197); exact Mn_y (show ((v201 : Int32).toInt).toNat = ((x181_2 : Int32).toInt).toNat + 1 from by omega) (hb9.mp (by omega)) hq182_1 (by omega) (by omega) (by omega))) (show (v201 : Int32).toInt ≤ ((iv 12 62) : Int32).toInt from by omega) (by omega) _ _ ls hP hD hS (lv_sub hl [0, 1, 2] rfl)
  have : (0 : Int32).toInt = 0 := (by decide)
  have : (20000 : Int32).toInt = 20000 := (by decide)
  have : ((-20000) : Int32).toInt = (-20000) := (by decide)
  have i_12_62 : 0 ≤ (iv 12 62).toInt ∧ (iv 12 62).toInt ≤ 8 := hI.1 12 62
  exact lp182 9 0 20000 (-20000) ⟨by decide, by decide⟩ (show Mx (fa 12 63) (a).toInt ((0 : Int32).toInt).toNat (-20000) ((-20000) : Int32).toInt from Mx_0 _ _ _) (show Mn (fa 12 64) (a).toInt ((0 : Int32).toInt).toNat 20000 (20000 : Int32).toInt from Mn_0 _ _ _) (show (0 : Int32).toInt ≤ ((iv 12 62) : Int32).toInt from by omega) (by first | decide | omega) _ _ ls hP hD hS (lv_sub hl [0, 1, 2] rfl)
set_option maxHeartbeats 4000000 in
set_option maxRecDepth 100000 in
/-- X12_houses -/
theorem c_X12_houses_h (l : Launch) (dC : Nat → ClassId) (dI : Nat → Nat → Nat) (sz : Nat) (h : Nat) (g : Nat → Nat → Nat) (ca : Nat → Nat → ClassId) (iv : Nat → Nat → Int32) (lv : Nat → Nat → Int64) (fa : Nat → Nat → Nat → Int32) (la : Nat → Nat → Nat → Int64) (hI : IX iv fa) (a : Int32) (hJS : Sp (fa 12 63) (fa 12 64) ((iv 12 62).toInt).toNat) : Met l yX12_houses (wc yX12_houses cX12_houses 4 (some .int)) ({ frames := 1, cells := 0, slots := 0, locals := 25 } : Room) (pW (dC, dI) classes (WM h g ca iv lv fa la) (TM ca) sz [.ref h, .int a]) (va_Qi (fun r (u : SS) => ∃ (ni_12_65 : Int32) (ni_12_66 : Int32), (((r.toInt = -100002 ∧ ¬ (0 ≤ a.toInt ∧ a.toInt ≤ 2)) ∨ (r.toInt = -100003 ∧ (0 ≤ a.toInt ∧ a.toInt ≤ 2) ∧ (iv 12 62).toInt = 0) ∨ ((0 ≤ a.toInt ∧ a.toInt ≤ 2) ∧ 0 < (iv 12 62).toInt ∧ ∃ b : Int, Lo (fa 12 63) (fa 12 64) ((iv 12 62).toInt).toNat b ∧ ((a.toInt = 2 ∧ r.toInt = b) ∨ (a.toInt = 0 ∧ Mx (fa 12 63) b ((iv 12 62).toInt).toNat (-20000) r.toInt) ∨ (a.toInt = 1 ∧ Mn (fa 12 64) b ((iv 12 62).toInt).toNat 20000 r.toInt))))) ∧ (True) ∧ u = ((u2 (u2 iv 12 65 ni_12_65) 12 66 ni_12_66), lv, fa, la)) (bM (dC, dI) h g ca (va_A (WM h g ca iv lv fa la) sz)) (va_A (WM h g ca iv lv fa la) sz)) 0 0 (va_A (WM h g ca iv lv fa la) sz) := by
  refine Met.ofW (cc := cX12_houses) (maxL := 4) (ret := (some .int)) (by decide) rfl ?_
  intro p e s m args below meth c s₁ B hml hv
  obtain ⟨rfl, hsz, hP, hK, hD0⟩ := hv
  have hx := B.exec
  have hb := B.bytes
  have hr := B.returns
  have ht := tb_tl (atoms_spec (ws := wc yX12_houses cX12_houses 4 (some .int)) B.pre)
  have hown : s.vm.findClass RX12 = some m.cls := findClass_of_methodNamed B.named
  have hlocks := B.notSynchronized
  subst hsz
  have hD := hD0.self (sz := s.heap.size)
  generalize hAe : va_A (WM h g ca iv lv fa la) s.heap.size = A at hD ⊢
  have hA : ∀ q : Nat, s.heap.size ≤ q → A q := fun q h => by rw [← hAe]; exact Or.inr h
  have hS : va_S A s.heap s.heap [] := va_S.rf
  have hl := lv_entry [.ref h, .int a] (n := 4) (Nat.le_of_ble_eq_true rfl)
  rw [lg_entry_eq]
  generalize (lg_sl [.ref h, .int a] ++ List.replicate (4 - (lg_sl [.ref h, .int a]).length) Slot.unset).toArray = ls at hl ⊢
  have hl : lv_has ls 4 [(0, .ref h), (1, .int a)] := hl
  refine lv_iload_n hx hb dX12_houses_0 rfl (lv_at hl 1 rfl) ?_
  refine lv_i2l (v := (a.toInt64)) hx hb dX12_houses_1 rfl ?_
  refine lv_lconst (v := 0) hx hb dX12_houses_2 (by decide) ?_
  refine lv_ldc2 hx hb hown (ht _ m_1390) dX12_houses_3 ?_
  refine vp_callSi (W.runS (As := [.long (a.toInt64), .long 0, .long 2]) (rest := []) ⟨hx, hb, hml, hown, ht⟩ (c_X12_in l dC dI (a.toInt64) 0 2 (a.toInt) (0) (2) ((Int32.toInt_toInt64 a).trans rfl) (by decide : (0 : Int64).toInt = 0) (by decide : (2 : Int64).toInt = 2)) (kS 3 ht m_1370 m_1371 m_89 m_1372 rfl rfl hd_X12_in_v ⟨Nat.le_of_ble_eq_true rfl, Nat.le_of_ble_eq_true rfl⟩) (sR noP (hK.sub (tys' := []) [] rfl)) rfl rfl hl.1 rfl (lv_room (Nat.le_of_ble_eq_true rfl)) dX12_houses_6 ⟨Nat.le_of_ble_eq_true rfl, Nat.le_of_ble_eq_true rfl⟩) (fun r1 hr1 => ?_)
  rcases hr1 with ⟨rfl, fr1⟩ | ⟨rfl, fr1⟩
  · skip
    refine lv_if_ne (tgt := 15) hx hb dX12_houses_9 (by decide) (fun c2 => ?_) (fun c2 => ?_)
    · skip
      refine lv_aload_n hx hb dX12_houses_15 rfl (lv_at hl 0 rfl) ?_
      have i_12_62 : 0 ≤ (iv 12 62).toInt ∧ (iv 12 62).toInt ≤ 8 := hI.1 12 62
      refine gM_12_62 hx hb ht hown hK hP m_1201 (v := (iv 12 62)) rfl dX12_houses_16 ?_
      refine lv_if_ne (tgt := 25) hx hb dX12_houses_19 (by decide) (fun c3 => ?_) (fun c3 => ?_)
      · have fc3 := z_ne (rfl : ((iv 12 62)).toInt = _) (by decide : (0 : Int32).toInt = 0) c3
        have hp8 := p2_b (n := ((iv 12 62).toInt).toNat) (by omega)
        refine lv_iconst (v := (-1)) hx hb dX12_houses_25 (by decide) ?_
        refine lv_istore_n (lv' := [(2, .int (-1)), (0, .ref h), (1, .int a)]) hx hb dX12_houses_26 rfl hl (by decide) rfl (fun ls hl => ?_)
        refine lv_iconst (v := 0) hx hb dX12_houses_27 (by decide) ?_
        refine lv_istore_n (lv' := [(3, .int 0), (2, .int (-1)), (0, .ref h), (1, .int a)]) hx hb dX12_houses_28 rfl hl (by decide) rfl (fun ls hl => ?_)
        have lp840 : ∀ (nn840 : Nat) (x839_3 : Int32) (x839_2 : Int32) (w839_i_12_65 : Int32) (w839_i_12_66 : Int32), 0 ≤ x839_3.toInt ∧ x839_3.toInt ≤ 256 → (-1) ≤ x839_2.toInt ∧ x839_2.toInt ≤ 255 → ((((x839_2 : Int32).toInt = -1 ∧ ∀ o : Int, 0 ≤ o → o < (x839_3 : Int32).toInt → ¬ Fe (fa 12 63) (fa 12 64) (((iv 12 62) : Int32).toInt).toNat o) ∨ (0 ≤ (x839_2 : Int32).toInt ∧ (x839_2 : Int32).toInt < (x839_3 : Int32).toInt ∧ Fe (fa 12 63) (fa 12 64) (((iv 12 62) : Int32).toInt).toNat (x839_2 : Int32).toInt ∧ ∀ o : Int, 0 ≤ o → o < (x839_3 : Int32).toInt → Fe (fa 12 63) (fa 12 64) (((iv 12 62) : Int32).toInt).toNat o → pcI (x839_2 : Int32).toInt < pcI o ∨ (pcI (x839_2 : Int32).toInt = pcI o ∧ (x839_2 : Int32).toInt ≤ o)))) → (x839_3 : Int32).toInt ≤ 2 ^ (((iv 12 62) : Int32).toInt).toNat → 0 ≤ (x839_3 : Int32).toInt → -1 ≤ (x839_2 : Int32).toInt → (x839_2 : Int32).toInt < 256 → 256 - x839_3.toInt < (nn840 : Int) → ∀ (H : Heap) (locs : List Loc), ∀ (ls : Array Slot), va_P (dC, dI) classes (WM h g ca (u2 (u2 iv 12 65 w839_i_12_65) 12 66 w839_i_12_66) lv fa la) H → va_D A (WM h g ca (u2 (u2 iv 12 65 w839_i_12_65) 12 66 w839_i_12_66) lv fa la) → va_S A s.heap H locs → lv_has ls 4 [(3, .int x839_3), (2, .int x839_2), (0, .ref h), (1, .int a)] → W p l e ({ frames := 1, cells := 0, slots := 0, locals := 25 } : Room) s m ([.ref h, .int a] : List Value).toArray below meth c H locs 0 0 (MQ below (va_Qi (fun r (u : SS) => ∃ (ni_12_65 : Int32) (ni_12_66 : Int32), (((r.toInt = -100002 ∧ ¬ (0 ≤ a.toInt ∧ a.toInt ≤ 2)) ∨ (r.toInt = -100003 ∧ (0 ≤ a.toInt ∧ a.toInt ≤ 2) ∧ (iv 12 62).toInt = 0) ∨ ((0 ≤ a.toInt ∧ a.toInt ≤ 2) ∧ 0 < (iv 12 62).toInt ∧ ∃ b : Int, Lo (fa 12 63) (fa 12 64) ((iv 12 62).toInt).toNat b ∧ ((a.toInt = 2 ∧ r.toInt = b) ∨ (a.toInt = 0 ∧ Mx (fa 12 63) b ((iv 12 62).toInt).toNat (-20000) r.toInt) ∨ (a.toInt = 1 ∧ Mn (fa 12 64) b ((iv 12 62).toInt).toNat 20000 r.toInt))))) ∧ (True) ∧ u = ((u2 (u2 iv 12 65 ni_12_65) 12 66 ni_12_66), lv, fa, la)) (bM (dC, dI) h g ca A) A) ([.ref h, .int a] : List Value).toArray s 0 0 A) (F0 m 29 ls []) := by
          intro nn840
          induction nn840 with
          | zero => intro x839_3 x839_2 w839_i_12_65 w839_i_12_66 hx839_3 hx839_2 hq840_0 hq840_1 hq840_2 hq840_3 hq840_4 hm840; exfalso; omega
          | succ nn840 ih840 =>
            intro x839_3 x839_2 w839_i_12_65 w839_i_12_66 hx839_3 hx839_2 hq840_0 hq840_1 hq840_2 hq840_3 hq840_4 hm840 H locs ls hP hD hS hl
            refine lv_iload_n hx hb dX12_houses_29 rfl (lv_at hl 0 rfl) ?_
            refine lv_iconst (v := 1) hx hb dX12_houses_30 (by decide) ?_
            refine lv_aload_n hx hb dX12_houses_31 rfl (lv_at hl 2 rfl) ?_
            refine gM_12_62 hx hb ht hown hK hP m_1201 (v := (iv 12 62)) rfl dX12_houses_32 ?_
            refine lv_ishl hx hb dX12_houses_35 ?_
            refine lv_topi (fun v841 ev841 => ?_)
            have tv841 := shl1 ev841 ⟨by omega, by omega⟩
            have hs9 := sh_a (a := (iv 12 62)) ⟨by omega, by omega⟩
            rw [← ev841] at hs9
            have hp9 := p2_b (n := ((iv 12 62).toInt).toNat) (by omega)
            refine lv_icmp_ge (tgt := 70) hx hb dX12_houses_36 (by decide) (fun c842 => ?_) (fun c842 => ?_)
            · have fc842 := z_le (rfl : (v841).toInt = _) (rfl : (x839_3).toInt = _) c842
              have hl9 : Lo (fa 12 63) (fa 12 64) ((iv 12 62).toInt).toNat (x839_2 : Int32).toInt := by
                rcases hq840_0 with ⟨q1, q2⟩ | ⟨q1, q2, q3, q4⟩
                · exact absurd (Fe_all (lo := fa 12 63) (hi := fa 12 64) (n := ((iv 12 62).toInt).toNat) (by omega)) (q2 _ (by omega) (by omega))
                · exact ⟨q1, by omega, q3, fun o h1 h2 h3 => q4 o h1 (by omega) h3⟩
              have hl8 := hl9.1
              have hl7 := hl9.2.1
              have : 0 ≤ (x839_2 : Int32).toInt ∧ (x839_2 : Int32).toInt ≤ 255 := ⟨by omega, by omega⟩
              refine lv_aload_n hx hb dX12_houses_70 rfl (lv_at hl 2 rfl) ?_
              refine lv_iload_n hx hb dX12_houses_71 rfl (lv_at hl 1 rfl) ?_
              have hFc := free_all hD hS hA
              refine va_calli (va_runV (As := [.int x839_2]) (rest := []) ⟨hx, hb, hml, hown, ht⟩ (c_X12_findSpan_h l dC dI H.size h g ca (u2 (u2 iv 12 65 w839_i_12_65) 12 66 w839_i_12_66) lv fa la (IX_i (c := 12) (k := 66) (IX_i (c := 12) (k := 65) hI (full_i _)) (full_i _)) x839_2) (kV 1 ht m_1668 m_1670 m_71 m_89 m_1671 rfl rfl hd_X12_findSpan_v ⟨Nat.le_of_ble_eq_true rfl, Nat.le_of_ble_eq_true rfl⟩) (vW hP hK hD (rM_12 hK hP)) rfl rfl hl.1 rfl (lv_room (Nat.le_of_ble_eq_true rfl)) dX12_houses_72 ⟨Nat.le_of_ble_eq_true rfl, Nat.le_of_ble_eq_true rfl⟩) hS (fun q _ h => hFc q h) hFc (fun r843 u t H1 locs ht9 hvm hr843 hB hz1 hk1 hS => ?_)
              obtain ⟨n844, n845, xr843_0, xr843_1, xr843_2, hr843, rfl⟩ := hr843
              obtain ⟨hP, hD⟩ := hB
              rw [ht9] at hP
              generalize H1 = H at hP hS ⊢
              have hP : va_P (dC, dI) classes (WM h g ca (u2 (u2 iv 12 65 n844) 12 66 n845) lv fa la) H := hP
              have hD : va_D A (WM h g ca (u2 (u2 iv 12 65 n844) 12 66 n845) lv fa la) := (show va_D _ (WM h g ca (u2 (u2 iv 12 65 n844) 12 66 n845) lv fa la) from hD).weaken (fun _ _ _ h => hFc _ h)
              have xr843_0 : Mx (fa 12 63) (x839_2 : Int32).toInt (((iv 12 62) : Int32).toInt).toNat (-20000) (n844 : Int32).toInt := xr843_0
              have xr843_1 : Mn (fa 12 64) (x839_2 : Int32).toInt (((iv 12 62) : Int32).toInt).toNat 20000 (n845 : Int32).toInt := xr843_1
              have xr843_2 : (((r843 : Int32).toInt = 1 ∧ (n844 : Int32).toInt ≤ (n845 : Int32).toInt) ∨ ((r843 : Int32).toInt = 0 ∧ (n845 : Int32).toInt < (n844 : Int32).toInt)) := xr843_2
              refine lv_istore_n (lv' := [(3, .int r843), (2, .int x839_2), (0, .ref h), (1, .int a)]) hx hb dX12_houses_75 rfl hl (by decide) rfl (fun ls hl => ?_)
              refine lv_iload_n hx hb dX12_houses_76 rfl (lv_at hl 3 rfl) ?_
              refine lv_if_ne (tgt := 87) hx hb dX12_houses_77 (by decide) (fun c846 => ?_) (fun c846 => ?_)
              · have fc846 := z_ne (rfl : (a).toInt = _) (by decide : (0 : Int32).toInt = 0) c846
                refine lv_iload_n hx hb dX12_houses_87 rfl (lv_at hl 3 rfl) ?_
                refine lv_iconst (v := 1) hx hb dX12_houses_88 (by decide) ?_
                refine lv_icmp_ne (tgt := 99) hx hb dX12_houses_89 (by decide) (fun c847 => ?_) (fun c847 => ?_)
                · have fc847 := z_ne (rfl : (a).toInt = _) (by decide : (1 : Int32).toInt = 1) c847
                  refine lv_iload_n hx hb dX12_houses_99 rfl (lv_at hl 1 rfl) ?_
                  have hP9 : va_P (dC, dI) classes (WM h g ca (u2 (u2 iv 12 65 n844) 12 66 n845) lv fa la) H := hP
                  have hD9 : va_D A (WM h g ca (u2 (u2 iv 12 65 n844) 12 66 n845) lv fa la) := hD
                  exact W.iret (v := x839_2) hx hb hr (fun t ht9 hW => ⟨⟨x839_2, ((u2 (u2 iv 12 65 n844) 12 66 n845), lv, fa, la), rfl, ⟨n844, n845, (show (((x839_2 : Int32).toInt = -100002 ∧ ¬ (0 ≤ (a).toInt ∧ (a).toInt ≤ 2)) ∨ ((x839_2 : Int32).toInt = -100003 ∧ (0 ≤ (a).toInt ∧ (a).toInt ≤ 2) ∧ (iv 12 62).toInt = 0) ∨ ((0 ≤ (a).toInt ∧ (a).toInt ≤ 2) ∧ 0 < (iv 12 62).toInt ∧ ∃ b : Int, Lo (fa 12 63) (fa 12 64) ((iv 12 62).toInt).toNat b ∧ (((a).toInt = 2 ∧ (x839_2 : Int32).toInt = b) ∨ ((a).toInt = 0 ∧ Mx (fa 12 63) b ((iv 12 62).toInt).toNat (-20000) (x839_2 : Int32).toInt) ∨ ((a).toInt = 1 ∧ Mn (fa 12 64) b ((iv 12 62).toInt).toNat 20000 (x839_2 : Int32).toInt)))) from Or.inr (Or.inr ⟨⟨by omega, by omega⟩, by omega, _, hl9, Or.inl ⟨by omega, rfl⟩⟩)), trivial, rfl⟩, by rw [ht9]; exact hP9, hD9⟩, hS.F ht9⟩) hS.2.2 dX12_houses_100
                · have fc847 := z_eq (rfl : (a).toInt = _) (by decide : (1 : Int32).toInt = 1) c847
                  refine lv_aload_n hx hb dX12_houses_92 rfl (lv_at hl 2 rfl) ?_
                  refine gM_12_66 hx hb ht hown hK hP m_1205 (v := n845) rfl dX12_houses_93 ?_
                  refine lv_goto (tgt := 100) hx hb dX12_houses_96 (by decide) ?_
                  have hP9 : va_P (dC, dI) classes (WM h g ca (u2 (u2 iv 12 65 n844) 12 66 n845) lv fa la) H := hP
                  have hD9 : va_D A (WM h g ca (u2 (u2 iv 12 65 n844) 12 66 n845) lv fa la) := hD
                  exact W.iret (v := n845) hx hb hr (fun t ht9 hW => ⟨⟨n845, ((u2 (u2 iv 12 65 n844) 12 66 n845), lv, fa, la), rfl, ⟨n844, n845, (show (((n845 : Int32).toInt = -100002 ∧ ¬ (0 ≤ (a).toInt ∧ (a).toInt ≤ 2)) ∨ ((n845 : Int32).toInt = -100003 ∧ (0 ≤ (a).toInt ∧ (a).toInt ≤ 2) ∧ (iv 12 62).toInt = 0) ∨ ((0 ≤ (a).toInt ∧ (a).toInt ≤ 2) ∧ 0 < (iv 12 62).toInt ∧ ∃ b : Int, Lo (fa 12 63) (fa 12 64) ((iv 12 62).toInt).toNat b ∧ (((a).toInt = 2 ∧ (n845 : Int32).toInt = b) ∨ ((a).toInt = 0 ∧ Mx (fa 12 63) b ((iv 12 62).toInt).toNat (-20000) (n845 : Int32).toInt) ∨ ((a).toInt = 1 ∧ Mn (fa 12 64) b ((iv 12 62).toInt).toNat 20000 (n845 : Int32).toInt)))) from Or.inr (Or.inr ⟨⟨by omega, by omega⟩, by omega, _, hl9, Or.inr (Or.inr ⟨by omega, xr843_1⟩)⟩)), trivial, rfl⟩, by rw [ht9]; exact hP9, hD9⟩, hS.F ht9⟩) hS.2.2 dX12_houses_100
              · have fc846 := z_eq (rfl : (a).toInt = _) (by decide : (0 : Int32).toInt = 0) c846
                refine lv_aload_n hx hb dX12_houses_80 rfl (lv_at hl 2 rfl) ?_
                refine gM_12_65 hx hb ht hown hK hP m_1204 (v := n844) rfl dX12_houses_81 ?_
                refine lv_goto (tgt := 100) hx hb dX12_houses_84 (by decide) ?_
                have hP9 : va_P (dC, dI) classes (WM h g ca (u2 (u2 iv 12 65 n844) 12 66 n845) lv fa la) H := hP
                have hD9 : va_D A (WM h g ca (u2 (u2 iv 12 65 n844) 12 66 n845) lv fa la) := hD
                exact W.iret (v := n844) hx hb hr (fun t ht9 hW => ⟨⟨n844, ((u2 (u2 iv 12 65 n844) 12 66 n845), lv, fa, la), rfl, ⟨n844, n845, (show (((n844 : Int32).toInt = -100002 ∧ ¬ (0 ≤ (a).toInt ∧ (a).toInt ≤ 2)) ∨ ((n844 : Int32).toInt = -100003 ∧ (0 ≤ (a).toInt ∧ (a).toInt ≤ 2) ∧ (iv 12 62).toInt = 0) ∨ ((0 ≤ (a).toInt ∧ (a).toInt ≤ 2) ∧ 0 < (iv 12 62).toInt ∧ ∃ b : Int, Lo (fa 12 63) (fa 12 64) ((iv 12 62).toInt).toNat b ∧ (((a).toInt = 2 ∧ (n844 : Int32).toInt = b) ∨ ((a).toInt = 0 ∧ Mx (fa 12 63) b ((iv 12 62).toInt).toNat (-20000) (n844 : Int32).toInt) ∨ ((a).toInt = 1 ∧ Mn (fa 12 64) b ((iv 12 62).toInt).toNat 20000 (n844 : Int32).toInt)))) from Or.inr (Or.inr ⟨⟨by omega, by omega⟩, by omega, _, hl9, Or.inr (Or.inl ⟨by omega, xr843_0⟩)⟩)), trivial, rfl⟩, by rw [ht9]; exact hP9, hD9⟩, hS.F ht9⟩) hS.2.2 dX12_houses_100
            · have fc842 := z_nle (rfl : (v841).toInt = _) (rfl : (x839_3).toInt = _) c842
              refine lv_iload_n hx hb dX12_houses_39 rfl (lv_at hl 1 rfl) ?_
              refine lv_if_lt (tgt := 54) hx hb dX12_houses_40 (by decide) (fun c848 => ?_) (fun c848 => ?_)
              · have fc848 := z_lt (rfl : (x839_2).toInt = _) (by decide : (0 : Int32).toInt = 0) c848
                refine lv_aload_n hx hb dX12_houses_54 rfl (lv_at hl 2 rfl) ?_
                refine lv_iload_n hx hb dX12_houses_55 rfl (lv_at hl 0 rfl) ?_
                have hFc := free_all hD hS hA
                refine va_calli (va_runV (As := [.int x839_3]) (rest := []) ⟨hx, hb, hml, hown, ht⟩ (c_X12_findSpan_h l dC dI H.size h g ca (u2 (u2 iv 12 65 w839_i_12_65) 12 66 w839_i_12_66) lv fa la (IX_i (c := 12) (k := 66) (IX_i (c := 12) (k := 65) hI (full_i _)) (full_i _)) x839_3) (kV 1 ht m_1668 m_1670 m_71 m_89 m_1671 rfl rfl hd_X12_findSpan_v ⟨Nat.le_of_ble_eq_true rfl, Nat.le_of_ble_eq_true rfl⟩) (vW hP hK hD (rM_12 hK hP)) rfl rfl hl.1 rfl (lv_room (Nat.le_of_ble_eq_true rfl)) dX12_houses_56 ⟨Nat.le_of_ble_eq_true rfl, Nat.le_of_ble_eq_true rfl⟩) hS (fun q _ h => hFc q h) hFc (fun r849 u t H1 locs ht9 hvm hr849 hB hz1 hk1 hS => ?_)
                obtain ⟨n850, n851, xr849_0, xr849_1, xr849_2, hr849, rfl⟩ := hr849
                obtain ⟨hP, hD⟩ := hB
                rw [ht9] at hP
                generalize H1 = H at hP hS ⊢
                have hP : va_P (dC, dI) classes (WM h g ca (u2 (u2 iv 12 65 n850) 12 66 n851) lv fa la) H := hP
                have hD : va_D A (WM h g ca (u2 (u2 iv 12 65 n850) 12 66 n851) lv fa la) := (show va_D _ (WM h g ca (u2 (u2 iv 12 65 n850) 12 66 n851) lv fa la) from hD).weaken (fun _ _ _ h => hFc _ h)
                have xr849_0 : Mx (fa 12 63) (x839_3 : Int32).toInt (((iv 12 62) : Int32).toInt).toNat (-20000) (n850 : Int32).toInt := xr849_0
                have xr849_1 : Mn (fa 12 64) (x839_3 : Int32).toInt (((iv 12 62) : Int32).toInt).toNat 20000 (n851 : Int32).toInt := xr849_1
                have xr849_2 : (((r849 : Int32).toInt = 1 ∧ (n850 : Int32).toInt ≤ (n851 : Int32).toInt) ∨ ((r849 : Int32).toInt = 0 ∧ (n851 : Int32).toInt < (n850 : Int32).toInt)) := xr849_2
                refine lv_if_eq (tgt := 64) hx hb dX12_houses_59 (by decide) (fun c852 => ?_) (fun c852 => ?_)
                · have fc852 := z_eq (rfl : (r849).toInt = _) (by decide : (0 : Int32).toInt = 0) c852
                  obtain ⟨v853, ev853⟩ : ∃ y : Int32, y = x839_3 + 1 := ⟨_, rfl⟩
                  have tv853 := z_add ev853 rfl (by decide : (1 : Int32).toInt = 1) (by omega) (by omega)
                  refine lv_iinc (v := v853) (lv' := [(3, .int v853), (2, .int x839_2), (0, .ref h), (1, .int a)]) hx hb dX12_houses_64 hl (k := 0) rfl (by rw [ev853]; rfl) (by decide) rfl (fun ls hl => ?_)
                  refine lv_goto (tgt := 29) hx hb dX12_houses_67 (by decide) ?_
                  exact ih840 v853 x839_2 n850 n851 ⟨by omega, by omega⟩ ⟨by omega, by omega⟩ (show (((x839_2 : Int32).toInt = -1 ∧ ∀ o : Int, 0 ≤ o → o < (v853 : Int32).toInt → ¬ Fe (fa 12 63) (fa 12 64) (((iv 12 62) : Int32).toInt).toNat o) ∨ (0 ≤ (x839_2 : Int32).toInt ∧ (x839_2 : Int32).toInt < (v853 : Int32).toInt ∧ Fe (fa 12 63) (fa 12 64) (((iv 12 62) : Int32).toInt).toNat (x839_2 : Int32).toInt ∧ ∀ o : Int, 0 ≤ o → o < (v853 : Int32).toInt → Fe (fa 12 63) (fa 12 64) (((iv 12 62) : Int32).toInt).toNat o → pcI (x839_2 : Int32).toInt < pcI o ∨ (pcI (x839_2 : Int32).toInt = pcI o ∧ (x839_2 : Int32).toInt ≤ o))) from (by
                        have hf9 := Fe_iff hJS (by decide) xr849_0 xr849_1
                        rcases hq840_0 with ⟨q1, q2⟩ | ⟨q1, q2, q3, q4⟩
                        · refine Or.inl ⟨q1, fun o h1 h2 => ?_⟩
                          by_cases ho : o = (x839_3 : Int32).toInt
                          · rw [ho]; exact fun h3 => absurd (hf9.mpr h3) (by omega)
                          · exact q2 o h1 (by omega)
                        · refine Or.inr ⟨q1, by omega, q3, fun o h1 h2 h3 => ?_⟩
                          by_cases ho : o = (x839_3 : Int32).toInt
                          · rw [ho] at h3 ⊢
                            have z := hf9.mpr h3
                            exfalso; omega
                          · exact q4 o h1 (by omega) h3)) (show (v853 : Int32).toInt ≤ 2 ^ (((iv 12 62) : Int32).toInt).toNat from by omega) (show 0 ≤ (v853 : Int32).toInt from by omega) (show -1 ≤ (x839_2 : Int32).toInt from by omega) (show (x839_2 : Int32).toInt < 256 from by omega) (by omega) _ _ ls hP hD hS (lv_sub hl [0, 1, 2, 3] rfl)
                · have fc852 := z_ne (rfl : (r849).toInt = _) (by decide : (0 : Int32).toInt = 0) c852
                  refine lv_iload_n hx hb dX12_houses_62 rfl (lv_at hl 0 rfl) ?_
                  refine lv_istore_n (lv' := [(2, .int x839_3), (3, .int x839_3), (0, .ref h), (1, .int a)]) hx hb dX12_houses_63 rfl hl (by decide) rfl (fun ls hl => ?_)
                  obtain ⟨v854, ev854⟩ : ∃ y : Int32, y = x839_3 + 1 := ⟨_, rfl⟩
                  have tv854 := z_add ev854 rfl (by decide : (1 : Int32).toInt = 1) (by omega) (by omega)
                  refine lv_iinc (v := v854) (lv' := [(3, .int v854), (2, .int x839_3), (0, .ref h), (1, .int a)]) hx hb dX12_houses_64 hl (k := 1) rfl (by rw [ev854]; rfl) (by decide) rfl (fun ls hl => ?_)
                  refine lv_goto (tgt := 29) hx hb dX12_houses_67 (by decide) ?_
                  exact ih840 v854 x839_3 n850 n851 ⟨by omega, by omega⟩ ⟨by omega, by omega⟩ (show (((x839_3 : Int32).toInt = -1 ∧ ∀ o : Int, 0 ≤ o → o < (v854 : Int32).toInt → ¬ Fe (fa 12 63) (fa 12 64) (((iv 12 62) : Int32).toInt).toNat o) ∨ (0 ≤ (x839_3 : Int32).toInt ∧ (x839_3 : Int32).toInt < (v854 : Int32).toInt ∧ Fe (fa 12 63) (fa 12 64) (((iv 12 62) : Int32).toInt).toNat (x839_3 : Int32).toInt ∧ ∀ o : Int, 0 ≤ o → o < (v854 : Int32).toInt → Fe (fa 12 63) (fa 12 64) (((iv 12 62) : Int32).toInt).toNat o → pcI (x839_3 : Int32).toInt < pcI o ∨ (pcI (x839_3 : Int32).toInt = pcI o ∧ (x839_3 : Int32).toInt ≤ o))) from (by
                        have hf9 := Fe_iff hJS (by decide) xr849_0 xr849_1
                        have hf8 := hf9.mp (by omega)
                        rcases hq840_0 with ⟨q1, q2⟩ | ⟨q1, q2, q3, q4⟩
                        · refine Or.inr ⟨by omega, by omega, hf8, fun o h1 h2 h3 => ?_⟩
                          by_cases ho : o = (x839_3 : Int32).toInt
                          · rw [ho]; exact Or.inr ⟨rfl, Int.le_refl _⟩
                          · exact absurd h3 (q2 o h1 (by omega))
                        · refine Or.inr ⟨by omega, by omega, hf8, fun o h1 h2 h3 => ?_⟩
                          by_cases ho : o = (x839_3 : Int32).toInt
                          · rw [ho]; exact Or.inr ⟨rfl, Int.le_refl _⟩
                          · have z := q4 o h1 (by omega) h3
                            exfalso; omega)) (show (v854 : Int32).toInt ≤ 2 ^ (((iv 12 62) : Int32).toInt).toNat from by omega) (show 0 ≤ (v854 : Int32).toInt from by omega) (show -1 ≤ (x839_3 : Int32).toInt from by omega) (show (x839_3 : Int32).toInt < 256 from by omega) (by omega) _ _ ls hP hD hS (lv_sub hl [0, 1, 2, 3] rfl)
              · have fc848 := z_nlt (rfl : (x839_2).toInt = _) (by decide : (0 : Int32).toInt = 0) c848
                refine lv_iload_n hx hb dX12_houses_43 rfl (lv_at hl 0 rfl) ?_
                have : 0 ≤ (x839_3 : Int32).toInt ∧ (x839_3 : Int32).toInt ≤ 255 := ⟨by omega, by omega⟩
                refine vp_callSi (W.runS (As := [.int x839_3]) (rest := []) ⟨hx, hb, hml, hown, ht⟩ (c_X12_ones_h l dC dI x839_3 ⟨by omega, by omega⟩) (kS 1 ht m_1606 m_1607 m_89 m_1608 rfl rfl hd_X12_ones_v ⟨Nat.le_of_ble_eq_true rfl, Nat.le_of_ble_eq_true rfl⟩) (sR noP (hK.sub (tys' := []) [] rfl)) rfl rfl hl.1 rfl (lv_room (Nat.le_of_ble_eq_true rfl)) dX12_houses_44 ⟨Nat.le_of_ble_eq_true rfl, Nat.le_of_ble_eq_true rfl⟩) (fun r855 hr855 => ?_)
                obtain ⟨hr855, xr855_0⟩ := hr855
                have xr855_0 : (r855 : Int32).toInt = pcI (x839_3 : Int32).toInt := xr855_0
                refine lv_iload_n hx hb dX12_houses_47 rfl (lv_at hl 1 rfl) ?_
                have : 0 ≤ (x839_2 : Int32).toInt ∧ (x839_2 : Int32).toInt ≤ 255 := ⟨by omega, by omega⟩
                refine vp_callSi (W.runS (As := [.int x839_2]) (rest := [.int r855]) ⟨hx, hb, hml, hown, ht⟩ (c_X12_ones_h l dC dI x839_2 ⟨by omega, by omega⟩) (kS 1 ht m_1606 m_1607 m_89 m_1608 rfl rfl hd_X12_ones_v ⟨Nat.le_of_ble_eq_true rfl, Nat.le_of_ble_eq_true rfl⟩) (sR noP (hK.sub (tys' := []) [] rfl)) rfl rfl hl.1 rfl (lv_room (Nat.le_of_ble_eq_true rfl)) dX12_houses_48 ⟨Nat.le_of_ble_eq_true rfl, Nat.le_of_ble_eq_true rfl⟩) (fun r856 hr856 => ?_)
                obtain ⟨hr856, xr856_0⟩ := hr856
                have xr856_0 : (r856 : Int32).toInt = pcI (x839_2 : Int32).toInt := xr856_0
                refine lv_icmp_ge (tgt := 64) hx hb dX12_houses_51 (by decide) (fun c857 => ?_) (fun c857 => ?_)
                · have fc857 := z_le (rfl : (r856).toInt = _) (rfl : (r855).toInt = _) c857
                  obtain ⟨v858, ev858⟩ : ∃ y : Int32, y = x839_3 + 1 := ⟨_, rfl⟩
                  have tv858 := z_add ev858 rfl (by decide : (1 : Int32).toInt = 1) (by omega) (by omega)
                  refine lv_iinc (v := v858) (lv' := [(3, .int v858), (2, .int x839_2), (0, .ref h), (1, .int a)]) hx hb dX12_houses_64 hl (k := 0) rfl (by rw [ev858]; rfl) (by decide) rfl (fun ls hl => ?_)
                  refine lv_goto (tgt := 29) hx hb dX12_houses_67 (by decide) ?_
                  exact ih840 v858 x839_2 w839_i_12_65 w839_i_12_66 ⟨by omega, by omega⟩ ⟨by omega, by omega⟩ (show (((x839_2 : Int32).toInt = -1 ∧ ∀ o : Int, 0 ≤ o → o < (v858 : Int32).toInt → ¬ Fe (fa 12 63) (fa 12 64) (((iv 12 62) : Int32).toInt).toNat o) ∨ (0 ≤ (x839_2 : Int32).toInt ∧ (x839_2 : Int32).toInt < (v858 : Int32).toInt ∧ Fe (fa 12 63) (fa 12 64) (((iv 12 62) : Int32).toInt).toNat (x839_2 : Int32).toInt ∧ ∀ o : Int, 0 ≤ o → o < (v858 : Int32).toInt → Fe (fa 12 63) (fa 12 64) (((iv 12 62) : Int32).toInt).toNat o → pcI (x839_2 : Int32).toInt < pcI o ∨ (pcI (x839_2 : Int32).toInt = pcI o ∧ (x839_2 : Int32).toInt ≤ o))) from (by
                        rcases hq840_0 with ⟨q1, q2⟩ | ⟨q1, q2, q3, q4⟩
                        · refine Or.inl ⟨q1, fun o h1 h2 => ?_⟩
                          by_cases ho : o = (x839_3 : Int32).toInt
                          · rw [ho]; exfalso; omega
                          · exact q2 o h1 (by omega)
                        · refine Or.inr ⟨q1, by omega, q3, fun o h1 h2 h3 => ?_⟩
                          by_cases ho : o = (x839_3 : Int32).toInt
                          · rw [ho] at h3 ⊢
                            omega
                          · exact q4 o h1 (by omega) h3)) (show (v858 : Int32).toInt ≤ 2 ^ (((iv 12 62) : Int32).toInt).toNat from by omega) (show 0 ≤ (v858 : Int32).toInt from by omega) (show -1 ≤ (x839_2 : Int32).toInt from by omega) (show (x839_2 : Int32).toInt < 256 from by omega) (by omega) _ _ ls hP hD hS (lv_sub hl [0, 1, 2, 3] rfl)
                · have fc857 := z_nle (rfl : (r856).toInt = _) (rfl : (r855).toInt = _) c857
                  refine lv_aload_n hx hb dX12_houses_54 rfl (lv_at hl 2 rfl) ?_
                  refine lv_iload_n hx hb dX12_houses_55 rfl (lv_at hl 0 rfl) ?_
                  have hFc := free_all hD hS hA
                  refine va_calli (va_runV (As := [.int x839_3]) (rest := []) ⟨hx, hb, hml, hown, ht⟩ (c_X12_findSpan_h l dC dI H.size h g ca (u2 (u2 iv 12 65 w839_i_12_65) 12 66 w839_i_12_66) lv fa la (IX_i (c := 12) (k := 66) (IX_i (c := 12) (k := 65) hI (full_i _)) (full_i _)) x839_3) (kV 1 ht m_1668 m_1670 m_71 m_89 m_1671 rfl rfl hd_X12_findSpan_v ⟨Nat.le_of_ble_eq_true rfl, Nat.le_of_ble_eq_true rfl⟩) (vW hP hK hD (rM_12 hK hP)) rfl rfl hl.1 rfl (lv_room (Nat.le_of_ble_eq_true rfl)) dX12_houses_56 ⟨Nat.le_of_ble_eq_true rfl, Nat.le_of_ble_eq_true rfl⟩) hS (fun q _ h => hFc q h) hFc (fun r859 u t H1 locs ht9 hvm hr859 hB hz1 hk1 hS => ?_)
                  obtain ⟨n860, n861, xr859_0, xr859_1, xr859_2, hr859, rfl⟩ := hr859
                  obtain ⟨hP, hD⟩ := hB
                  rw [ht9] at hP
                  generalize H1 = H at hP hS ⊢
                  have hP : va_P (dC, dI) classes (WM h g ca (u2 (u2 iv 12 65 n860) 12 66 n861) lv fa la) H := hP
                  have hD : va_D A (WM h g ca (u2 (u2 iv 12 65 n860) 12 66 n861) lv fa la) := (show va_D _ (WM h g ca (u2 (u2 iv 12 65 n860) 12 66 n861) lv fa la) from hD).weaken (fun _ _ _ h => hFc _ h)
                  have xr859_0 : Mx (fa 12 63) (x839_3 : Int32).toInt (((iv 12 62) : Int32).toInt).toNat (-20000) (n860 : Int32).toInt := xr859_0
                  have xr859_1 : Mn (fa 12 64) (x839_3 : Int32).toInt (((iv 12 62) : Int32).toInt).toNat 20000 (n861 : Int32).toInt := xr859_1
                  have xr859_2 : (((r859 : Int32).toInt = 1 ∧ (n860 : Int32).toInt ≤ (n861 : Int32).toInt) ∨ ((r859 : Int32).toInt = 0 ∧ (n861 : Int32).toInt < (n860 : Int32).toInt)) := xr859_2
                  refine lv_if_eq (tgt := 64) hx hb dX12_houses_59 (by decide) (fun c862 => ?_) (fun c862 => ?_)
                  · have fc862 := z_eq (rfl : (r859).toInt = _) (by decide : (0 : Int32).toInt = 0) c862
                    obtain ⟨v863, ev863⟩ : ∃ y : Int32, y = x839_3 + 1 := ⟨_, rfl⟩
                    have tv863 := z_add ev863 rfl (by decide : (1 : Int32).toInt = 1) (by omega) (by omega)
                    refine lv_iinc (v := v863) (lv' := [(3, .int v863), (2, .int x839_2), (0, .ref h), (1, .int a)]) hx hb dX12_houses_64 hl (k := 0) rfl (by rw [ev863]; rfl) (by decide) rfl (fun ls hl => ?_)
                    refine lv_goto (tgt := 29) hx hb dX12_houses_67 (by decide) ?_
                    exact ih840 v863 x839_2 n860 n861 ⟨by omega, by omega⟩ ⟨by omega, by omega⟩ (show (((x839_2 : Int32).toInt = -1 ∧ ∀ o : Int, 0 ≤ o → o < (v863 : Int32).toInt → ¬ Fe (fa 12 63) (fa 12 64) (((iv 12 62) : Int32).toInt).toNat o) ∨ (0 ≤ (x839_2 : Int32).toInt ∧ (x839_2 : Int32).toInt < (v863 : Int32).toInt ∧ Fe (fa 12 63) (fa 12 64) (((iv 12 62) : Int32).toInt).toNat (x839_2 : Int32).toInt ∧ ∀ o : Int, 0 ≤ o → o < (v863 : Int32).toInt → Fe (fa 12 63) (fa 12 64) (((iv 12 62) : Int32).toInt).toNat o → pcI (x839_2 : Int32).toInt < pcI o ∨ (pcI (x839_2 : Int32).toInt = pcI o ∧ (x839_2 : Int32).toInt ≤ o))) from (by
                          have hf9 := Fe_iff hJS (by decide) xr859_0 xr859_1
                          rcases hq840_0 with ⟨q1, q2⟩ | ⟨q1, q2, q3, q4⟩
                          · refine Or.inl ⟨q1, fun o h1 h2 => ?_⟩
                            by_cases ho : o = (x839_3 : Int32).toInt
                            · rw [ho]; exact fun h3 => absurd (hf9.mpr h3) (by omega)
                            · exact q2 o h1 (by omega)
                          · refine Or.inr ⟨q1, by omega, q3, fun o h1 h2 h3 => ?_⟩
                            by_cases ho : o = (x839_3 : Int32).toInt
                            · rw [ho] at h3 ⊢
                              have z := hf9.mpr h3
                              exfalso; omega
                            · exact q4 o h1 (by omega) h3)) (show (v863 : Int32).toInt ≤ 2 ^ (((iv 12 62) : Int32).toInt).toNat from by omega) (show 0 ≤ (v863 : Int32).toInt from by omega) (show -1 ≤ (x839_2 : Int32).toInt from by omega) (show (x839_2 : Int32).toInt < 256 from by omega) (by omega) _ _ ls hP hD hS (lv_sub hl [0, 1, 2, 3] rfl)
                  · have fc862 := z_ne (rfl : (r859).toInt = _) (by decide : (0 : Int32).toInt = 0) c862
                    refine lv_iload_n hx hb dX12_houses_62 rfl (lv_at hl 0 rfl) ?_
                    refine lv_istore_n (lv' := [(2, .int x839_3), (3, .int x839_3), (0, .ref h), (1, .int a)]) hx hb dX12_houses_63 rfl hl (by decide) rfl (fun ls hl => ?_)
                    obtain ⟨v864, ev864⟩ : ∃ y : Int32, y = x839_3 + 1 := ⟨_, rfl⟩
                    have tv864 := z_add ev864 rfl (by decide : (1 : Int32).toInt = 1) (by omega) (by omega)
                    refine lv_iinc (v := v864) (lv' := [(3, .int v864), (2, .int x839_3), (0, .ref h), (1, .int a)]) hx hb dX12_houses_64 hl (k := 1) rfl (by rw [ev864]; rfl) (by decide) rfl (fun ls hl => ?_)
                    refine lv_goto (tgt := 29) hx hb dX12_houses_67 (by decide) ?_
                    exact ih840 v864 x839_3 n860 n861 ⟨by omega, by omega⟩ ⟨by omega, by omega⟩ (show (((x839_3 : Int32).toInt = -1 ∧ ∀ o : Int, 0 ≤ o → o < (v864 : Int32).toInt → ¬ Fe (fa 12 63) (fa 12 64) (((iv 12 62) : Int32).toInt).toNat o) ∨ (0 ≤ (x839_3 : Int32).toInt ∧ (x839_3 : Int32).toInt < (v864 : Int32).toInt ∧ Fe (fa 12 63) (fa 12 64) (((iv 12 62) : Int32).toInt).toNat (x839_3 : Int32).toInt ∧ ∀ o : Int, 0 ≤ o → o < (v864 : Int32).toInt → Fe (fa 12 63) (fa 12 64) (((iv 12 62) : Int32).toInt).toNat o → pcI (x839_3 : Int32).toInt < pcI o ∨ (pcI (x839_3 : Int32).toInt = pcI o ∧ (x839_3 : Int32).toInt ≤ o))) from (by
                          have hf9 := Fe_iff hJS (by decide) xr859_0 xr859_1
                          have hf8 := hf9.mp (by omega)
                          rcases hq840_0 with ⟨q1, q2⟩ | ⟨q1, q2, q3, q4⟩
                          · refine Or.inr ⟨by omega, by omega, hf8, fun o h1 h2 h3 => ?_⟩
                            by_cases ho : o = (x839_3 : Int32).toInt
                            · rw [ho]; exact Or.inr ⟨rfl, Int.le_refl _⟩
                            · exact absurd h3 (q2 o h1 (by omega))
                          · refine Or.inr ⟨by omega, by omega, hf8, fun o h1 h2 h3 => ?_⟩
                            by_cases ho : o = (x839_3 : Int32).toInt
                            · rw [ho]; exact Or.inr ⟨rfl, Int.le_refl _⟩
                            · have z := q4 o h1 (by omega) h3
                              omega)) (show (v864 : Int32).toInt ≤ 2 ^ (((iv 12 62) : Int32).toInt).toNat from by omega) (show 0 ≤ (v864 : Int32).toInt from by omega) (show -1 ≤ (x839_3 : Int32).toInt from by omega) (show (x839_3 : Int32).toInt < 256 from by omega) (by omega) _ _ ls hP hD hS (lv_sub hl [0, 1, 2, 3] rfl)
        have : (0 : Int32).toInt = 0 := (by decide)
        have : ((-1) : Int32).toInt = (-1) := (by decide)
        exact lp840 257 0 (-1) (iv 12 65) (iv 12 66) ⟨by decide, by decide⟩ ⟨by decide, by decide⟩ (show ((((-1) : Int32).toInt = -1 ∧ ∀ o : Int, 0 ≤ o → o < (0 : Int32).toInt → ¬ Fe (fa 12 63) (fa 12 64) (((iv 12 62) : Int32).toInt).toNat o) ∨ (0 ≤ ((-1) : Int32).toInt ∧ ((-1) : Int32).toInt < (0 : Int32).toInt ∧ Fe (fa 12 63) (fa 12 64) (((iv 12 62) : Int32).toInt).toNat ((-1) : Int32).toInt ∧ ∀ o : Int, 0 ≤ o → o < (0 : Int32).toInt → Fe (fa 12 63) (fa 12 64) (((iv 12 62) : Int32).toInt).toNat o → pcI ((-1) : Int32).toInt < pcI o ∨ (pcI ((-1) : Int32).toInt = pcI o ∧ ((-1) : Int32).toInt ≤ o))) from Or.inl ⟨by decide, fun o h1 h2 => absurd h2 (by have hz : (0 : Int32).toInt = 0 := (by decide); omega)⟩) (show (0 : Int32).toInt ≤ 2 ^ (((iv 12 62) : Int32).toInt).toNat from by omega) (show 0 ≤ (0 : Int32).toInt from by omega) (show -1 ≤ ((-1) : Int32).toInt from by omega) (show ((-1) : Int32).toInt < 256 from by omega) (by first | decide | omega) _ _ ls hP hD hS (lv_sub hl [0, 1, 2, 3] rfl)
      · have fc3 := z_eq (rfl : ((iv 12 62)).toInt = _) (by decide : (0 : Int32).toInt = 0) c3
        refine lv_ldc hx hb hown (ht _ m_1374) dX12_houses_22 ?_
        have : ((-100003) : Int32).toInt = (-100003) := (by decide)
        have hP9 : va_P (dC, dI) classes (WM h g ca (u2 (u2 iv 12 65 (iv 12 65)) 12 66 (iv 12 66)) lv fa la) s.heap := hP
        have hD9 : va_D A (WM h g ca (u2 (u2 iv 12 65 (iv 12 65)) 12 66 (iv 12 66)) lv fa la) := hD
        exact W.iret (v := (-100003)) hx hb hr (fun t ht9 hW => ⟨⟨(-100003), ((u2 (u2 iv 12 65 (iv 12 65)) 12 66 (iv 12 66)), lv, fa, la), rfl, ⟨(iv 12 65), (iv 12 66), (show ((((-100003) : Int32).toInt = -100002 ∧ ¬ (0 ≤ (a).toInt ∧ (a).toInt ≤ 2)) ∨ (((-100003) : Int32).toInt = -100003 ∧ (0 ≤ (a).toInt ∧ (a).toInt ≤ 2) ∧ (iv 12 62).toInt = 0) ∨ ((0 ≤ (a).toInt ∧ (a).toInt ≤ 2) ∧ 0 < (iv 12 62).toInt ∧ ∃ b : Int, Lo (fa 12 63) (fa 12 64) ((iv 12 62).toInt).toNat b ∧ (((a).toInt = 2 ∧ ((-100003) : Int32).toInt = b) ∨ ((a).toInt = 0 ∧ Mx (fa 12 63) b ((iv 12 62).toInt).toNat (-20000) ((-100003) : Int32).toInt) ∨ ((a).toInt = 1 ∧ Mn (fa 12 64) b ((iv 12 62).toInt).toNat 20000 ((-100003) : Int32).toInt)))) from Or.inr (Or.inl ⟨by omega, ⟨by omega, by omega⟩, by omega⟩)), trivial, rfl⟩, by rw [ht9]; exact hP9, hD9⟩, hS.F ht9⟩) hS.2.2 dX12_houses_24
    · exact absurd c2 (by decide)
  · skip
    refine lv_if_ne (tgt := 15) hx hb dX12_houses_9 (by decide) (fun c865 => ?_) (fun c865 => ?_)
    · exact absurd rfl c865
    · skip
      refine lv_ldc hx hb hown (ht _ m_1373) dX12_houses_12 ?_
      have : ((-100002) : Int32).toInt = (-100002) := (by decide)
      have hP9 : va_P (dC, dI) classes (WM h g ca (u2 (u2 iv 12 65 (iv 12 65)) 12 66 (iv 12 66)) lv fa la) s.heap := hP
      have hD9 : va_D A (WM h g ca (u2 (u2 iv 12 65 (iv 12 65)) 12 66 (iv 12 66)) lv fa la) := hD
      exact W.iret (v := (-100002)) hx hb hr (fun t ht9 hW => ⟨⟨(-100002), ((u2 (u2 iv 12 65 (iv 12 65)) 12 66 (iv 12 66)), lv, fa, la), rfl, ⟨(iv 12 65), (iv 12 66), (show ((((-100002) : Int32).toInt = -100002 ∧ ¬ (0 ≤ (a).toInt ∧ (a).toInt ≤ 2)) ∨ (((-100002) : Int32).toInt = -100003 ∧ (0 ≤ (a).toInt ∧ (a).toInt ≤ 2) ∧ (iv 12 62).toInt = 0) ∨ ((0 ≤ (a).toInt ∧ (a).toInt ≤ 2) ∧ 0 < (iv 12 62).toInt ∧ ∃ b : Int, Lo (fa 12 63) (fa 12 64) ((iv 12 62).toInt).toNat b ∧ (((a).toInt = 2 ∧ ((-100002) : Int32).toInt = b) ∨ ((a).toInt = 0 ∧ Mx (fa 12 63) b ((iv 12 62).toInt).toNat (-20000) ((-100002) : Int32).toInt) ∨ ((a).toInt = 1 ∧ Mn (fa 12 64) b ((iv 12 62).toInt).toNat 20000 ((-100002) : Int32).toInt)))) from Or.inl ⟨by omega, by omega⟩), trivial, rfl⟩, by rw [ht9]; exact hP9, hD9⟩, hS.F ht9⟩) hS.2.2 dX12_houses_14
