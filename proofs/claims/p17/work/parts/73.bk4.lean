/-! ===== bk4 ===== -/
set_option maxHeartbeats 4000000 in
set_option maxRecDepth 100000 in
/-- X12_findRules -/
theorem c_X12_findRules_f (l : Launch) (dC : Nat → ClassId) (dI : Nat → Nat → Nat) (sz : Nat) (h : Nat) (g : Nat → Nat → Nat) (ca : Nat → Nat → ClassId) (iv : Nat → Nat → Int32) (lv : Nat → Nat → Int64) (fa : Nat → Nat → Nat → Int32) (la : Nat → Nat → Nat → Int64) (hI : IX iv fa) (a : Int32) (hJC : JCf (iv 12 23).toInt (fa 12 25) (fa 12 26) (fa 12 27) (fa 12 28)) (hJK : ∀ k j : Nat, (k : Int) < (iv 12 23).toInt → 12 * k ≤ j → (j : Int) < 12 * (k : Int) + (fa 12 25 k).toInt → (fa 12 26 j).toInt = 3 → 0 ≤ (fa 12 28 j).toInt ∧ (fa 12 28 j).toInt < (k : Int)) : Met l yX12_findRules (wc yX12_findRules cX12_findRules 4 none) ({ frames := 0, cells := 0, slots := 0, locals := 0 } : Room) (pW (dC, dI) classes (WM h g ca iv lv fa la) (TM ca) sz [.ref h, .int a]) (va_Qv (fun (u : SS) => ∃ (na_12_39 : Nat → Int32) (na_12_40 : Nat → Int32) (ni_12_41 : Int32), (∀ j, inb (bA 12 39 j) (na_12_39 j)) ∧ (∀ j, inb (bA 12 40 j) (na_12_40 j)) ∧ inb (bI 12 41) ni_12_41 ∧ (∀ j : Nat, (j : Int) < (ni_12_41).toInt → (na_12_40 j).toInt < (iv 12 23).toInt) ∧ ((ni_12_41).toInt ≤ (iv 12 23).toInt) ∧ (OnR (iv 12 23).toInt (fun r => (na_12_39 r).toInt = 1) (fa 12 24) (St (fa 12 25) (mX (fa 12 26) 3) (fa 12 28)) a.toInt) ∧ (OrK (iv 12 23).toInt (fun r => (na_12_39 r).toInt = 1) (fa 12 24) na_12_40 (ni_12_41).toInt) ∧ u = ((u2 iv 12 41 ni_12_41), lv, (u2 (u2 fa 12 39 na_12_39) 12 40 na_12_40), la)) (bM (dC, dI) h g ca (va_A (WM h g ca iv lv fa la) sz)) (va_A (WM h g ca iv lv fa la) sz)) 0 0 (va_A (WM h g ca iv lv fa la) sz) := by
  refine Met.ofW (cc := cX12_findRules) (maxL := 4) (ret := none) (by decide) rfl ?_
  intro p e s m args below meth c s₁ B hml hv
  obtain ⟨rfl, hsz, hP, hK, hD0⟩ := hv
  have hx := B.exec
  have hb := B.bytes
  have hr := B.returns
  have ht := tb_tl (atoms_spec (ws := wc yX12_findRules cX12_findRules 4 none) B.pre)
  have hown : s.vm.findClass RX12 = some m.cls := findClass_of_methodNamed B.named
  have hlocks := B.notSynchronized
  subst hsz
  have hD := hD0.self (sz := s.heap.size)
  generalize hAe : va_A (WM h g ca iv lv fa la) s.heap.size = A at hD ⊢
  have hA : ∀ q : Nat, s.heap.size ≤ q → A q := fun q h => by rw [← hAe]; exact Or.inr h
  have hS : va_S A s.heap s.heap [] := va_S.rf
  have hl := lv_entry [.ref h, .int a] (n := 4) (Nat.le_of_ble_eq_true rfl)
  rw [lg_entry_eq]
  generalize (lg_sl [.ref h, .int a] ++ List.replicate (4 - (lg_sl [.ref h, .int a]).length) Slot.unset).toArray = ls at hl ⊢
  have hl : lv_has ls 4 [(0, .ref h), (1, .int a)] := hl
  refine lv_iconst (v := 0) hx hb dX12_findRules_0 (by decide) ?_
  refine lv_istore_n (lv' := [(2, .int 0), (0, .ref h), (1, .int a)]) hx hb dX12_findRules_1 rfl hl (by decide) rfl (fun ls hl => ?_)
  have i_12_23 : 0 ≤ (iv 12 23).toInt ∧ (iv 12 23).toInt ≤ 8 := hI.1 12 23
  have lp10204 : ∀ (nn10204 : Nat) (x10203_2 : Int32) (w10203_a_12_39 : Nat → Int32), 0 ≤ x10203_2.toInt ∧ x10203_2.toInt ≤ 8 → (∀ j, inb (bA 12 39 j) (w10203_a_12_39 j)) → (∀ r : Nat, (r : Int) < (x10203_2 : Int32).toInt → ((w10203_a_12_39 r).toInt = 1 ↔ ((fa 12 24) r).toInt ≤ (a).toInt)) → (x10203_2 : Int32).toInt ≤ ((iv 12 23) : Int32).toInt → 8 - x10203_2.toInt < (nn10204 : Int) → ∀ (H : Heap) (locs : List Loc), ∀ (ls : Array Slot), va_P (dC, dI) classes (WM h g ca iv lv (u2 fa 12 39 w10203_a_12_39) la) H → va_D A (WM h g ca iv lv (u2 fa 12 39 w10203_a_12_39) la) → va_S A s.heap H locs → lv_has ls 4 [(2, .int x10203_2), (0, .ref h), (1, .int a)] → W p l e ({ frames := 0, cells := 0, slots := 0, locals := 0 } : Room) s m ([.ref h, .int a] : List Value).toArray below meth c H locs 0 0 (MQ below (va_Qv (fun (u : SS) => ∃ (na_12_39 : Nat → Int32) (na_12_40 : Nat → Int32) (ni_12_41 : Int32), (∀ j, inb (bA 12 39 j) (na_12_39 j)) ∧ (∀ j, inb (bA 12 40 j) (na_12_40 j)) ∧ inb (bI 12 41) ni_12_41 ∧ (∀ j : Nat, (j : Int) < (ni_12_41).toInt → (na_12_40 j).toInt < (iv 12 23).toInt) ∧ ((ni_12_41).toInt ≤ (iv 12 23).toInt) ∧ (OnR (iv 12 23).toInt (fun r => (na_12_39 r).toInt = 1) (fa 12 24) (St (fa 12 25) (mX (fa 12 26) 3) (fa 12 28)) a.toInt) ∧ (OrK (iv 12 23).toInt (fun r => (na_12_39 r).toInt = 1) (fa 12 24) na_12_40 (ni_12_41).toInt) ∧ u = ((u2 iv 12 41 ni_12_41), lv, (u2 (u2 fa 12 39 na_12_39) 12 40 na_12_40), la)) (bM (dC, dI) h g ca A) A) ([.ref h, .int a] : List Value).toArray s 0 0 A) (F0 m 2 ls []) := by
    intro nn10204
    induction nn10204 with
    | zero => intro x10203_2 w10203_a_12_39 hx10203_2 hw10203_a_12_39 hq10204_0 hq10204_1 hm10204; exfalso; omega
    | succ nn10204 ih10204 =>
      intro x10203_2 w10203_a_12_39 hx10203_2 hw10203_a_12_39 hq10204_0 hq10204_1 hm10204 H locs ls hP hD hS hl
      refine lv_iload_n hx hb dX12_findRules_2 rfl (lv_at hl 0 rfl) ?_
      refine lv_aload_n hx hb dX12_findRules_3 rfl (lv_at hl 1 rfl) ?_
      refine gM_12_23 hx hb ht hown hK hP m_1162 (v := (iv 12 23)) rfl dX12_findRules_4 ?_
      refine lv_icmp_ge (tgt := 37) hx hb dX12_findRules_7 (by decide) (fun c10205 => ?_) (fun c10205 => ?_)
      · have fc10205 := z_le (rfl : ((iv 12 23)).toInt = _) (rfl : (x10203_2).toInt = _) c10205
        refine lv_aload_n hx hb dX12_findRules_37 rfl (lv_at hl 1 rfl) ?_
        refine gM_12_23 hx hb ht hown hK hP m_1162 (v := (iv 12 23)) rfl dX12_findRules_38 ?_
        refine lv_iconst (v := 1) hx hb dX12_findRules_41 (by decide) ?_
        refine lv_isub hx hb dX12_findRules_42 ?_
        refine lv_topi (fun v10206 ev10206 => ?_)
        have tv10206 := z_sub ev10206 (rfl : ((iv 12 23)).toInt = _) (by decide : (1 : Int32).toInt = 1) (by omega) (by omega)
        refine lv_istore_n (lv' := [(2, .int v10206), (0, .ref h), (1, .int a)]) hx hb dX12_findRules_43 rfl hl (by decide) rfl (fun ls hl => ?_)
        have lp11396 : ∀ (nn11396 : Nat) (x11395_2 : Int32) (w11395_a_12_39 : Nat → Int32), (-1) ≤ x11395_2.toInt ∧ x11395_2.toInt ≤ 7 → (∀ j, inb (bA 12 39 j) (w11395_a_12_39 j)) → (Pa ((iv 12 23) : Int32).toInt (x11395_2 : Int32).toInt w11395_a_12_39 (fa 12 24) (St (fa 12 25) (mX (fa 12 26) 3) (fa 12 28)) (a).toInt) → (x11395_2 : Int32).toInt + 1 ≤ ((iv 12 23) : Int32).toInt → -1 ≤ (x11395_2 : Int32).toInt → x11395_2.toInt - (-1) < (nn11396 : Int) → ∀ (H : Heap) (locs : List Loc), ∀ (ls : Array Slot), va_P (dC, dI) classes (WM h g ca iv lv (u2 fa 12 39 w11395_a_12_39) la) H → va_D A (WM h g ca iv lv (u2 fa 12 39 w11395_a_12_39) la) → va_S A s.heap H locs → lv_has ls 4 [(2, .int x11395_2), (0, .ref h), (1, .int a)] → W p l e ({ frames := 0, cells := 0, slots := 0, locals := 0 } : Room) s m ([.ref h, .int a] : List Value).toArray below meth c H locs 0 0 (MQ below (va_Qv (fun (u : SS) => ∃ (na_12_39 : Nat → Int32) (na_12_40 : Nat → Int32) (ni_12_41 : Int32), (∀ j, inb (bA 12 39 j) (na_12_39 j)) ∧ (∀ j, inb (bA 12 40 j) (na_12_40 j)) ∧ inb (bI 12 41) ni_12_41 ∧ (∀ j : Nat, (j : Int) < (ni_12_41).toInt → (na_12_40 j).toInt < (iv 12 23).toInt) ∧ ((ni_12_41).toInt ≤ (iv 12 23).toInt) ∧ (OnR (iv 12 23).toInt (fun r => (na_12_39 r).toInt = 1) (fa 12 24) (St (fa 12 25) (mX (fa 12 26) 3) (fa 12 28)) a.toInt) ∧ (OrK (iv 12 23).toInt (fun r => (na_12_39 r).toInt = 1) (fa 12 24) na_12_40 (ni_12_41).toInt) ∧ u = ((u2 iv 12 41 ni_12_41), lv, (u2 (u2 fa 12 39 na_12_39) 12 40 na_12_40), la)) (bM (dC, dI) h g ca A) A) ([.ref h, .int a] : List Value).toArray s 0 0 A) (F0 m 44 ls []) := by
          intro nn11396
          induction nn11396 with
          | zero => intro x11395_2 w11395_a_12_39 hx11395_2 hw11395_a_12_39 hq11396_0 hq11396_1 hq11396_2 hm11396; exfalso; omega
          | succ nn11396 ih11396 =>
            intro x11395_2 w11395_a_12_39 hx11395_2 hw11395_a_12_39 hq11396_0 hq11396_1 hq11396_2 hm11396 H locs ls hP hD hS hl
            refine lv_iload_n hx hb dX12_findRules_44 rfl (lv_at hl 0 rfl) ?_
            refine lv_if_lt (tgt := 111) hx hb dX12_findRules_45 (by decide) (fun c11397 => ?_) (fun c11397 => ?_)
            · have fc11397 := z_lt (rfl : (x11395_2).toInt = _) (by decide : (0 : Int32).toInt = 0) c11397
              have on9 : OnR (iv 12 23).toInt (fun r => (w11395_a_12_39 r).toInt = 1) (fa 12 24) (St (fa 12 25) (mX (fa 12 26) 3) (fa 12 28)) a.toInt := Pa_end (by omega) hq11396_0
              refine lv_aload_n hx hb dX12_findRules_111 rfl (lv_at hl 1 rfl) ?_
              refine lv_iconst (v := 0) hx hb dX12_findRules_112 (by decide) ?_
              refine pM_12_41 (v := 0) hx hb ht hown hK hP hD hS m_1180 dX12_findRules_113 (fun H locs hP hD hS => ?_)
              refine lv_iconst (v := 0) hx hb dX12_findRules_116 (by decide) ?_
              refine lv_istore_n (lv' := [(2, .int 0), (0, .ref h), (1, .int a)]) hx hb dX12_findRules_117 rfl hl (by decide) rfl (fun ls hl => ?_)
              have lp11871 : ∀ (nn11871 : Nat) (x11870_2 : Int32) (w11870_i_12_41 : Int32) (w11870_a_12_40 : Nat → Int32), 0 ≤ x11870_2.toInt ∧ x11870_2.toInt ≤ 8 → 0 ≤ w11870_i_12_41.toInt ∧ w11870_i_12_41.toInt ≤ 8 → (∀ j, inb (bA 12 40 j) (w11870_a_12_40 j)) → (∀ j : Nat, (j : Int) < (w11870_i_12_41 : Int32).toInt → (w11870_a_12_40 j).toInt < ((iv 12 23) : Int32).toInt) → (OrK (x11870_2 : Int32).toInt (fun r => (w11395_a_12_39 r).toInt = 1) (fa 12 24) w11870_a_12_40 (w11870_i_12_41 : Int32).toInt) → (w11870_i_12_41 : Int32).toInt ≤ (x11870_2 : Int32).toInt → 0 ≤ (w11870_i_12_41 : Int32).toInt → (x11870_2 : Int32).toInt ≤ ((iv 12 23) : Int32).toInt → 8 - x11870_2.toInt < (nn11871 : Int) → ∀ (H : Heap) (locs : List Loc), ∀ (ls : Array Slot), va_P (dC, dI) classes (WM h g ca (u2 iv 12 41 w11870_i_12_41) lv (u2 (u2 fa 12 39 w11395_a_12_39) 12 40 w11870_a_12_40) la) H → va_D A (WM h g ca (u2 iv 12 41 w11870_i_12_41) lv (u2 (u2 fa 12 39 w11395_a_12_39) 12 40 w11870_a_12_40) la) → va_S A s.heap H locs → lv_has ls 4 [(2, .int x11870_2), (0, .ref h), (1, .int a)] → W p l e ({ frames := 0, cells := 0, slots := 0, locals := 0 } : Room) s m ([.ref h, .int a] : List Value).toArray below meth c H locs 0 0 (MQ below (va_Qv (fun (u : SS) => ∃ (na_12_39 : Nat → Int32) (na_12_40 : Nat → Int32) (ni_12_41 : Int32), (∀ j, inb (bA 12 39 j) (na_12_39 j)) ∧ (∀ j, inb (bA 12 40 j) (na_12_40 j)) ∧ inb (bI 12 41) ni_12_41 ∧ (∀ j : Nat, (j : Int) < (ni_12_41).toInt → (na_12_40 j).toInt < (iv 12 23).toInt) ∧ ((ni_12_41).toInt ≤ (iv 12 23).toInt) ∧ (OnR (iv 12 23).toInt (fun r => (na_12_39 r).toInt = 1) (fa 12 24) (St (fa 12 25) (mX (fa 12 26) 3) (fa 12 28)) a.toInt) ∧ (OrK (iv 12 23).toInt (fun r => (na_12_39 r).toInt = 1) (fa 12 24) na_12_40 (ni_12_41).toInt) ∧ u = ((u2 iv 12 41 ni_12_41), lv, (u2 (u2 fa 12 39 na_12_39) 12 40 na_12_40), la)) (bM (dC, dI) h g ca A) A) ([.ref h, .int a] : List Value).toArray s 0 0 A) (F0 m 118 ls []) := by
                intro nn11871
                induction nn11871 with
                | zero => intro x11870_2 w11870_i_12_41 w11870_a_12_40 hx11870_2 hw11870_i_12_41 hw11870_a_12_40 hq11871_0 hq11871_1 hq11871_2 hq11871_3 hq11871_4 hm11871; exfalso; omega
                | succ nn11871 ih11871 =>
                  intro x11870_2 w11870_i_12_41 w11870_a_12_40 hx11870_2 hw11870_i_12_41 hw11870_a_12_40 hq11871_0 hq11871_1 hq11871_2 hq11871_3 hq11871_4 hm11871 H locs ls hP hD hS hl
                  refine lv_iload_n hx hb dX12_findRules_118 rfl (lv_at hl 0 rfl) ?_
                  refine lv_aload_n hx hb dX12_findRules_119 rfl (lv_at hl 1 rfl) ?_
                  refine gM_12_23 hx hb ht hown hK hP m_1162 (v := (iv 12 23)) rfl dX12_findRules_120 ?_
                  refine lv_icmp_ge (tgt := 209) hx hb dX12_findRules_123 (by decide) (fun c11872 => ?_) (fun c11872 => ?_)
                  · have fc11872 := z_le (rfl : ((iv 12 23)).toInt = _) (rfl : (x11870_2).toInt = _) c11872
                    have hP9 : va_P (dC, dI) classes (WM h g ca (u2 iv 12 41 w11870_i_12_41) lv (u2 (u2 fa 12 39 w11395_a_12_39) 12 40 w11870_a_12_40) la) H := hP
                    have hD9 : va_D A (WM h g ca (u2 iv 12 41 w11870_i_12_41) lv (u2 (u2 fa 12 39 w11395_a_12_39) 12 40 w11870_a_12_40) la) := hD
                    exact W.vret hx hb hr (fun t ht9 hW => ⟨⟨((u2 iv 12 41 w11870_i_12_41), lv, (u2 (u2 fa 12 39 w11395_a_12_39) 12 40 w11870_a_12_40), la), rfl, ⟨w11395_a_12_39, w11870_a_12_40, w11870_i_12_41, hw11395_a_12_39, hw11870_a_12_40, (show inb (0, 8) w11870_i_12_41 from ⟨by omega, by omega⟩), (show ∀ j : Nat, (j : Int) < (w11870_i_12_41 : Int32).toInt → (w11870_a_12_40 j).toInt < ((iv 12 23) : Int32).toInt from hq11871_0), (show (w11870_i_12_41 : Int32).toInt ≤ ((iv 12 23) : Int32).toInt from by omega), (show OnR ((iv 12 23) : Int32).toInt (fun r => (w11395_a_12_39 r).toInt = 1) (fa 12 24) (St (fa 12 25) (mX (fa 12 26) 3) (fa 12 28)) (a).toInt from on9), (show OrK ((iv 12 23) : Int32).toInt (fun r => (w11395_a_12_39 r).toInt = 1) (fa 12 24) w11870_a_12_40 (w11870_i_12_41 : Int32).toInt from (by have hq9 := hq11871_1; have he9 : (x11870_2 : Int32).toInt = (iv 12 23).toInt := (by omega); rw [he9] at hq9; exact hq9)), rfl⟩, by rw [ht9]; exact hP9, hD9⟩, hS.F ht9⟩) hS.2.2 dX12_findRules_209
                  · have fc11872 := z_nle (rfl : ((iv 12 23)).toInt = _) (rfl : (x11870_2).toInt = _) c11872
                    refine lv_aload_n hx hb dX12_findRules_126 rfl (lv_at hl 1 rfl) ?_
                    refine gM_12_39 hx hb ht hown hK hP m_1178 dX12_findRules_127 ?_
                    refine lv_iload_n hx hb dX12_findRules_130 rfl (lv_at hl 0 rfl) ?_
                    refine lM_12_39 hx hb hK hP (f := w11395_a_12_39) rfl (vp_in_iff.mpr ⟨by omega, by omega⟩) dX12_findRules_131 ?_
                    refine lv_topi (fun v11873 ev11873 => ?_)
                    have tv11873 : 0 ≤ v11873.toInt ∧ v11873.toInt ≤ 1 := by rw [ev11873]; exact hw11395_a_12_39 _
                    refine lv_if_eq (tgt := 203) hx hb dX12_findRules_132 (by decide) (fun c11874 => ?_) (fun c11874 => ?_)
                    · have fc11874 := z_eq (rfl : (v11873).toInt = _) (by decide : (0 : Int32).toInt = 0) c11874
                      obtain ⟨v11875, ev11875⟩ : ∃ y : Int32, y = x11870_2 + 1 := ⟨_, rfl⟩
                      have tv11875 := z_add ev11875 rfl (by decide : (1 : Int32).toInt = 1) (by omega) (by omega)
                      refine lv_iinc (v := v11875) (lv' := [(2, .int v11875), (0, .ref h), (1, .int a)]) hx hb dX12_findRules_203 hl (k := 0) rfl (by rw [ev11875]; rfl) (by decide) rfl (fun ls hl => ?_)
                      refine lv_goto (tgt := 118) hx hb dX12_findRules_206 (by decide) ?_
                      exact ih11871 v11875 w11870_i_12_41 w11870_a_12_40 ⟨by omega, by omega⟩ ⟨by omega, by omega⟩ hw11870_a_12_40 (show ∀ j : Nat, (j : Int) < (w11870_i_12_41 : Int32).toInt → (w11870_a_12_40 j).toInt < ((iv 12 23) : Int32).toInt from hq11871_0) (show OrK (v11875 : Int32).toInt (fun r => (w11395_a_12_39 r).toInt = 1) (fa 12 24) w11870_a_12_40 (w11870_i_12_41 : Int32).toInt from (by have ho9 := congrArg Int32.toInt (show v11873 = w11395_a_12_39 ((x11870_2 : Int32).toInt).toNat from ev11873); exact OrK_n (k := (x11870_2 : Int32).toInt) (by omega) (by omega) (show ¬ (w11395_a_12_39 ((x11870_2 : Int32).toInt).toNat).toInt = 1 from by omega) hq11871_1)) (show (w11870_i_12_41 : Int32).toInt ≤ (v11875 : Int32).toInt from by omega) (show 0 ≤ (w11870_i_12_41 : Int32).toInt from by omega) (show (v11875 : Int32).toInt ≤ ((iv 12 23) : Int32).toInt from by omega) (by omega) _ _ ls hP hD hS (lv_sub hl [0, 1, 2] rfl)
                    · have fc11874 := z_ne (rfl : (v11873).toInt = _) (by decide : (0 : Int32).toInt = 0) c11874
                      refine lv_aload_n hx hb dX12_findRules_135 rfl (lv_at hl 1 rfl) ?_
                      refine gM_12_41 hx hb ht hown hK hP m_1180 (v := w11870_i_12_41) rfl dX12_findRules_136 ?_
                      refine lv_istore_n (lv' := [(3, .int w11870_i_12_41), (2, .int x11870_2), (0, .ref h), (1, .int a)]) hx hb dX12_findRules_139 rfl hl (by decide) rfl (fun ls hl => ?_)
                      have lp11911 : ∀ (nn11911 : Nat) (x11910_3 : Int32) (w11910_a_12_40 : Nat → Int32), 0 ≤ x11910_3.toInt ∧ x11910_3.toInt ≤ 8 → (∀ j, inb (bA 12 40 j) (w11910_a_12_40 j)) → (∀ j : Nat, (j : Int) ≤ (w11870_i_12_41 : Int32).toInt → (j : Int) ≠ (x11910_3 : Int32).toInt → (w11910_a_12_40 j).toInt < ((iv 12 23) : Int32).toInt) → (∃ g : Nat → Int32, OrK (x11870_2 : Int32).toInt (fun r => (w11395_a_12_39 r).toInt = 1) (fa 12 24) g (w11870_i_12_41 : Int32).toInt ∧ Shf (fa 12 24) g w11910_a_12_40 ((fa 12 24) ((x11870_2 : Int32).toInt).toNat).toInt (x11910_3 : Int32).toInt (w11870_i_12_41 : Int32).toInt) → (x11910_3 : Int32).toInt ≤ (w11870_i_12_41 : Int32).toInt → 0 ≤ (x11910_3 : Int32).toInt → x11910_3.toInt - 0 < (nn11911 : Int) → ∀ (H : Heap) (locs : List Loc), ∀ (ls : Array Slot), va_P (dC, dI) classes (WM h g ca (u2 iv 12 41 w11870_i_12_41) lv (u2 (u2 fa 12 39 w11395_a_12_39) 12 40 w11910_a_12_40) la) H → va_D A (WM h g ca (u2 iv 12 41 w11870_i_12_41) lv (u2 (u2 fa 12 39 w11395_a_12_39) 12 40 w11910_a_12_40) la) → va_S A s.heap H locs → lv_has ls 4 [(3, .int x11910_3), (2, .int x11870_2), (0, .ref h), (1, .int a)] → W p l e ({ frames := 0, cells := 0, slots := 0, locals := 0 } : Room) s m ([.ref h, .int a] : List Value).toArray below meth c H locs 0 0 (MQ below (va_Qv (fun (u : SS) => ∃ (na_12_39 : Nat → Int32) (na_12_40 : Nat → Int32) (ni_12_41 : Int32), (∀ j, inb (bA 12 39 j) (na_12_39 j)) ∧ (∀ j, inb (bA 12 40 j) (na_12_40 j)) ∧ inb (bI 12 41) ni_12_41 ∧ (∀ j : Nat, (j : Int) < (ni_12_41).toInt → (na_12_40 j).toInt < (iv 12 23).toInt) ∧ ((ni_12_41).toInt ≤ (iv 12 23).toInt) ∧ (OnR (iv 12 23).toInt (fun r => (na_12_39 r).toInt = 1) (fa 12 24) (St (fa 12 25) (mX (fa 12 26) 3) (fa 12 28)) a.toInt) ∧ (OrK (iv 12 23).toInt (fun r => (na_12_39 r).toInt = 1) (fa 12 24) na_12_40 (ni_12_41).toInt) ∧ u = ((u2 iv 12 41 ni_12_41), lv, (u2 (u2 fa 12 39 na_12_39) 12 40 na_12_40), la)) (bM (dC, dI) h g ca A) A) ([.ref h, .int a] : List Value).toArray s 0 0 A) (F0 m 140 ls []) := by
                        intro nn11911
                        induction nn11911 with
                        | zero => intro x11910_3 w11910_a_12_40 hx11910_3 hw11910_a_12_40 hq11911_0 hq11911_1 hq11911_2 hq11911_3 hm11911; exfalso; omega
                        | succ nn11911 ih11911 =>
                          intro x11910_3 w11910_a_12_40 hx11910_3 hw11910_a_12_40 hq11911_0 hq11911_1 hq11911_2 hq11911_3 hm11911 H locs ls hP hD hS hl
                          refine lv_iload_n hx hb dX12_findRules_140 rfl (lv_at hl 0 rfl) ?_
                          refine lv_if_le (tgt := 186) hx hb dX12_findRules_141 (by decide) (fun c11912 => ?_) (fun c11912 => ?_)
                          · have fc11912 := z_le (rfl : (x11910_3).toInt = _) (by decide : (0 : Int32).toInt = 0) c11912
                            refine lv_aload_n hx hb dX12_findRules_186 rfl (lv_at hl 2 rfl) ?_
                            refine gM_12_40 hx hb ht hown hK hP m_1179 dX12_findRules_187 ?_
                            refine lv_iload_n hx hb dX12_findRules_190 rfl (lv_at hl 0 rfl) ?_
                            refine lv_iload_n hx hb dX12_findRules_191 rfl (lv_at hl 1 rfl) ?_
                            refine tM_12_40 hx hb hK hP hD hS (f0 := w11910_a_12_40) rfl (i := x11910_3) (x := x11870_2) (vp_in_iff.mpr ⟨by omega, by omega⟩) dX12_findRules_192 (fun f11913 ef11913 H locs hP hD hS => ?_)
                            have hf11913 : ∀ j, inb (bA 12 40 j) (f11913 j) := by rw [ef11913]; exact upd_b (b := bA 12 40) hw11910_a_12_40 (show inb (0, 7) x11870_2 from ⟨by omega, by omega⟩)
                            have hP : va_P (dC, dI) classes (WM h g ca (u2 iv 12 41 w11870_i_12_41) lv (u2 (u2 fa 12 39 w11395_a_12_39) 12 40 f11913) la) H := hP
                            have hD : va_D A (WM h g ca (u2 iv 12 41 w11870_i_12_41) lv (u2 (u2 fa 12 39 w11395_a_12_39) 12 40 f11913) la) := hD
                            refine lv_aload_n hx hb dX12_findRules_193 rfl (lv_at hl 2 rfl) ?_
                            refine lv_dup hx hb dX12_findRules_194 rfl ?_
                            refine gM_12_41 hx hb ht hown hK hP m_1180 (v := w11870_i_12_41) rfl dX12_findRules_195 ?_
                            refine lv_iconst (v := 1) hx hb dX12_findRules_198 (by decide) ?_
                            refine lv_iadd hx hb dX12_findRules_199 ?_
                            refine lv_topi (fun v11914 ev11914 => ?_)
                            have tv11914 := z_add ev11914 (rfl : (w11870_i_12_41).toInt = _) (by decide : (1 : Int32).toInt = 1) (by omega) (by omega)
                            have : 0 ≤ (v11914 : Int32).toInt ∧ (v11914 : Int32).toInt ≤ 8 := ⟨by omega, by omega⟩
                            refine pM_12_41 (v := v11914) hx hb ht hown hK hP hD hS m_1180 dX12_findRules_200 (fun H locs hP hD hS => ?_)
                            have hP : va_P (dC, dI) classes (WM h g ca (u2 iv 12 41 v11914) lv (u2 (u2 fa 12 39 w11395_a_12_39) 12 40 f11913) la) H := hP
                            have hD : va_D A (WM h g ca (u2 iv 12 41 v11914) lv (u2 (u2 fa 12 39 w11395_a_12_39) 12 40 f11913) la) := hD
                            obtain ⟨v11915, ev11915⟩ : ∃ y : Int32, y = x11870_2 + 1 := ⟨_, rfl⟩
                            have tv11915 := z_add ev11915 rfl (by decide : (1 : Int32).toInt = 1) (by omega) (by omega)
                            refine lv_iinc (v := v11915) (lv' := [(2, .int v11915), (3, .int x11910_3), (0, .ref h), (1, .int a)]) hx hb dX12_findRules_203 hl (k := 1) rfl (by rw [ev11915]; rfl) (by decide) rfl (fun ls hl => ?_)
                            refine lv_goto (tgt := 118) hx hb dX12_findRules_206 (by decide) ?_
                            exact ih11871 v11915 v11914 f11913 ⟨by omega, by omega⟩ ⟨by omega, by omega⟩ hf11913 (show ∀ j : Nat, (j : Int) < (v11914 : Int32).toInt → (f11913 j).toInt < ((iv 12 23) : Int32).toInt from (fun j h => by
                                  rw [ef11913]
                                  by_cases hj : j = (x11910_3 : Int32).toNatClampNeg
                                  · rw [hj, upd_eq]; omega
                                  · rw [upd_ne hj]; have hj2 : j ≠ (x11910_3 : Int32).toInt.toNat := hj; exact hq11911_0 j (by omega) (by omega))) (show OrK (v11915 : Int32).toInt (fun r => (w11395_a_12_39 r).toInt = 1) (fa 12 24) f11913 (v11914 : Int32).toInt from (by
                                  have ho9 := congrArg Int32.toInt (show v11873 = w11395_a_12_39 ((x11870_2 : Int32).toInt).toNat from ev11873)
                                  obtain ⟨g9, ga, gb⟩ := hq11911_1
                                  exact OrK_y (k := (x11870_2 : Int32).toInt) (i := (x11910_3 : Int32).toInt) (by omega) (by omega) (by omega) (by omega) (by omega) (show (w11395_a_12_39 ((x11870_2 : Int32).toInt).toNat).toInt = 1 from by omega) (fun t ht => by rw [ef11913, upd_ne (show t ≠ (x11910_3 : Int32).toNatClampNeg from ht)]) (by rw [ef11913, show ((x11910_3 : Int32).toInt).toNat = (x11910_3 : Int32).toNatClampNeg from rfl, upd_eq]) (Or.inl (by omega)) gb ga)) (show (v11914 : Int32).toInt ≤ (v11915 : Int32).toInt from by omega) (show 0 ≤ (v11914 : Int32).toInt from by omega) (show (v11915 : Int32).toInt ≤ ((iv 12 23) : Int32).toInt from by omega) (by omega) _ _ ls hP hD hS (lv_sub hl [0, 2, 3] rfl)
                          · have fc11912 := z_nle (rfl : (x11910_3).toInt = _) (by decide : (0 : Int32).toInt = 0) c11912
                            refine lv_aload_n hx hb dX12_findRules_144 rfl (lv_at hl 2 rfl) ?_
                            refine gM_12_24 hx hb ht hown hK hP m_1163 dX12_findRules_145 ?_
                            refine lv_aload_n hx hb dX12_findRules_148 rfl (lv_at hl 2 rfl) ?_
                            refine gM_12_40 hx hb ht hown hK hP m_1179 dX12_findRules_149 ?_
                            refine lv_iload_n hx hb dX12_findRules_152 rfl (lv_at hl 0 rfl) ?_
                            refine lv_iconst (v := 1) hx hb dX12_findRules_153 (by decide) ?_
                            refine lv_isub hx hb dX12_findRules_154 ?_
                            refine lv_topi (fun v11916 ev11916 => ?_)
                            have tv11916 := z_sub ev11916 (rfl : (x11910_3).toInt = _) (by decide : (1 : Int32).toInt = 1) (by omega) (by omega)
                            refine lM_12_40 hx hb hK hP (f := w11910_a_12_40) rfl (vp_in_iff.mpr ⟨by omega, by omega⟩) dX12_findRules_155 ?_
                            refine lv_topi (fun v11917 ev11917 => ?_)
                            have tv11917 : 0 ≤ v11917.toInt ∧ v11917.toInt ≤ 7 := by rw [ev11917]; exact hw11910_a_12_40 _
                            refine lM_12_24 hx hb hK hP (f := (fa 12 24)) rfl (vp_in_iff.mpr ⟨by omega, by omega⟩) dX12_findRules_156 ?_
                            refine lv_topi (fun v11918 ev11918 => ?_)
                            refine lv_aload_n hx hb dX12_findRules_157 rfl (lv_at hl 2 rfl) ?_
                            refine gM_12_24 hx hb ht hown hK hP m_1163 dX12_findRules_158 ?_
                            refine lv_iload_n hx hb dX12_findRules_161 rfl (lv_at hl 1 rfl) ?_
                            refine lM_12_24 hx hb hK hP (f := (fa 12 24)) rfl (vp_in_iff.mpr ⟨by omega, by omega⟩) dX12_findRules_162 ?_
                            refine lv_topi (fun v11919 ev11919 => ?_)
                            refine lv_icmp_le (tgt := 186) hx hb dX12_findRules_163 (by decide) (fun c11920 => ?_) (fun c11920 => ?_)
                            · have fc11920 := z_le (rfl : (v11918).toInt = _) (rfl : (v11919).toInt = _) c11920
                              refine lv_aload_n hx hb dX12_findRules_186 rfl (lv_at hl 2 rfl) ?_
                              refine gM_12_40 hx hb ht hown hK hP m_1179 dX12_findRules_187 ?_
                              refine lv_iload_n hx hb dX12_findRules_190 rfl (lv_at hl 0 rfl) ?_
                              refine lv_iload_n hx hb dX12_findRules_191 rfl (lv_at hl 1 rfl) ?_
                              have : 0 ≤ (x11910_3 : Int32).toInt ∧ (x11910_3 : Int32).toInt ≤ 7 := ⟨by omega, by omega⟩
                              refine tM_12_40 hx hb hK hP hD hS (f0 := w11910_a_12_40) rfl (i := x11910_3) (x := x11870_2) (vp_in_iff.mpr ⟨by omega, by omega⟩) dX12_findRules_192 (fun f11921 ef11921 H locs hP hD hS => ?_)
                              have hf11921 : ∀ j, inb (bA 12 40 j) (f11921 j) := by rw [ef11921]; exact upd_b (b := bA 12 40) hw11910_a_12_40 (show inb (0, 7) x11870_2 from ⟨by omega, by omega⟩)
                              have hP : va_P (dC, dI) classes (WM h g ca (u2 iv 12 41 w11870_i_12_41) lv (u2 (u2 fa 12 39 w11395_a_12_39) 12 40 f11921) la) H := hP
                              have hD : va_D A (WM h g ca (u2 iv 12 41 w11870_i_12_41) lv (u2 (u2 fa 12 39 w11395_a_12_39) 12 40 f11921) la) := hD
                              refine lv_aload_n hx hb dX12_findRules_193 rfl (lv_at hl 2 rfl) ?_
                              refine lv_dup hx hb dX12_findRules_194 rfl ?_
                              refine gM_12_41 hx hb ht hown hK hP m_1180 (v := w11870_i_12_41) rfl dX12_findRules_195 ?_
                              refine lv_iconst (v := 1) hx hb dX12_findRules_198 (by decide) ?_
                              refine lv_iadd hx hb dX12_findRules_199 ?_
                              refine lv_topi (fun v11922 ev11922 => ?_)
                              have tv11922 := z_add ev11922 (rfl : (w11870_i_12_41).toInt = _) (by decide : (1 : Int32).toInt = 1) (by omega) (by omega)
                              have : 0 ≤ (v11922 : Int32).toInt ∧ (v11922 : Int32).toInt ≤ 8 := ⟨by omega, by omega⟩
                              refine pM_12_41 (v := v11922) hx hb ht hown hK hP hD hS m_1180 dX12_findRules_200 (fun H locs hP hD hS => ?_)
                              have hP : va_P (dC, dI) classes (WM h g ca (u2 iv 12 41 v11922) lv (u2 (u2 fa 12 39 w11395_a_12_39) 12 40 f11921) la) H := hP
                              have hD : va_D A (WM h g ca (u2 iv 12 41 v11922) lv (u2 (u2 fa 12 39 w11395_a_12_39) 12 40 f11921) la) := hD
                              obtain ⟨v11923, ev11923⟩ : ∃ y : Int32, y = x11870_2 + 1 := ⟨_, rfl⟩
                              have tv11923 := z_add ev11923 rfl (by decide : (1 : Int32).toInt = 1) (by omega) (by omega)
                              refine lv_iinc (v := v11923) (lv' := [(2, .int v11923), (3, .int x11910_3), (0, .ref h), (1, .int a)]) hx hb dX12_findRules_203 hl (k := 1) rfl (by rw [ev11923]; rfl) (by decide) rfl (fun ls hl => ?_)
                              refine lv_goto (tgt := 118) hx hb dX12_findRules_206 (by decide) ?_
                              exact ih11871 v11923 v11922 f11921 ⟨by omega, by omega⟩ ⟨by omega, by omega⟩ hf11921 (show ∀ j : Nat, (j : Int) < (v11922 : Int32).toInt → (f11921 j).toInt < ((iv 12 23) : Int32).toInt from (fun j h => by
                                    rw [ef11921]
                                    by_cases hj : j = (x11910_3 : Int32).toNatClampNeg
                                    · rw [hj, upd_eq]; omega
                                    · rw [upd_ne hj]; have hj2 : j ≠ (x11910_3 : Int32).toInt.toNat := hj; exact hq11911_0 j (by omega) (by omega))) (show OrK (v11923 : Int32).toInt (fun r => (w11395_a_12_39 r).toInt = 1) (fa 12 24) f11921 (v11922 : Int32).toInt from (by
                                    have ho9 := congrArg Int32.toInt (show v11873 = w11395_a_12_39 ((x11870_2 : Int32).toInt).toNat from ev11873)
                                    obtain ⟨g9, ga, gb⟩ := hq11911_1
                                    have he9 : (v11916 : Int32).toNatClampNeg = ((x11910_3 : Int32).toInt - 1).toNat := by show (v11916 : Int32).toInt.toNat = _; omega
                                    have hp9 : v11917 = w11910_a_12_40 ((x11910_3 : Int32).toInt - 1).toNat := by rw [← he9]; exact ev11917
                                    have hd1 := congrArg Int32.toInt (show v11918 = fa 12 24 ((v11917 : Int32).toInt).toNat from ev11918)
                                    have hd2 := congrArg Int32.toInt (show v11919 = fa 12 24 ((x11870_2 : Int32).toInt).toNat from ev11919)
                                    rw [hp9] at hd1
                                    exact OrK_y (k := (x11870_2 : Int32).toInt) (i := (x11910_3 : Int32).toInt) (by omega) (by omega) (by omega) (by omega) (by omega) (show (w11395_a_12_39 ((x11870_2 : Int32).toInt).toNat).toInt = 1 from by omega) (fun t ht => by rw [ef11921, upd_ne (show t ≠ (x11910_3 : Int32).toNatClampNeg from ht)]) (by rw [ef11921, show ((x11910_3 : Int32).toInt).toNat = (x11910_3 : Int32).toNatClampNeg from rfl, upd_eq]) (Or.inr (by omega)) gb ga)) (show (v11922 : Int32).toInt ≤ (v11923 : Int32).toInt from by omega) (show 0 ≤ (v11922 : Int32).toInt from by omega) (show (v11923 : Int32).toInt ≤ ((iv 12 23) : Int32).toInt from by omega) (by omega) _ _ ls hP hD hS (lv_sub hl [0, 2, 3] rfl)
                            · have fc11920 := z_nle (rfl : (v11918).toInt = _) (rfl : (v11919).toInt = _) c11920
                              refine lv_aload_n hx hb dX12_findRules_166 rfl (lv_at hl 2 rfl) ?_
                              refine gM_12_40 hx hb ht hown hK hP m_1179 dX12_findRules_167 ?_
                              refine lv_iload_n hx hb dX12_findRules_170 rfl (lv_at hl 0 rfl) ?_
                              refine lv_aload_n hx hb dX12_findRules_171 rfl (lv_at hl 2 rfl) ?_
                              refine gM_12_40 hx hb ht hown hK hP m_1179 dX12_findRules_172 ?_
                              refine lv_iload_n hx hb dX12_findRules_175 rfl (lv_at hl 0 rfl) ?_
                              refine lv_iconst (v := 1) hx hb dX12_findRules_176 (by decide) ?_
                              refine lv_isub hx hb dX12_findRules_177 ?_
                              refine lv_topi (fun v11924 ev11924 => ?_)
                              obtain rfl : v11916 = v11924 := ev11916.trans ev11924.symm
                              refine lM_12_40 hx hb hK hP (f := w11910_a_12_40) rfl (vp_in_iff.mpr ⟨by omega, by omega⟩) dX12_findRules_178 ?_
                              refine lv_topi (fun v11925 ev11925 => ?_)
                              obtain rfl : v11917 = v11925 := ev11917.trans ev11925.symm
                              have : 0 ≤ (x11910_3 : Int32).toInt ∧ (x11910_3 : Int32).toInt ≤ 7 := ⟨by omega, by omega⟩
                              refine tM_12_40 hx hb hK hP hD hS (f0 := w11910_a_12_40) rfl (i := x11910_3) (x := v11917) (vp_in_iff.mpr ⟨by omega, by omega⟩) dX12_findRules_179 (fun f11926 ef11926 H locs hP hD hS => ?_)
                              have hf11926 : ∀ j, inb (bA 12 40 j) (f11926 j) := by rw [ef11926]; exact upd_b (b := bA 12 40) hw11910_a_12_40 (show inb (0, 7) v11917 from ⟨by omega, by omega⟩)
                              have hP : va_P (dC, dI) classes (WM h g ca (u2 iv 12 41 w11870_i_12_41) lv (u2 (u2 fa 12 39 w11395_a_12_39) 12 40 f11926) la) H := hP
                              have hD : va_D A (WM h g ca (u2 iv 12 41 w11870_i_12_41) lv (u2 (u2 fa 12 39 w11395_a_12_39) 12 40 f11926) la) := hD
                              obtain ⟨v11927, ev11927⟩ : ∃ y : Int32, y = x11910_3 + (-1) := ⟨_, rfl⟩
                              have tv11927 := z_add ev11927 rfl (by decide : ((-1) : Int32).toInt = (-1)) (by omega) (by omega)
                              refine lv_iinc (v := v11927) (lv' := [(3, .int v11927), (2, .int x11870_2), (0, .ref h), (1, .int a)]) hx hb dX12_findRules_180 hl (k := 0) rfl (by rw [ev11927]; rfl) (by decide) rfl (fun ls hl => ?_)
                              refine lv_goto (tgt := 140) hx hb dX12_findRules_183 (by decide) ?_
                              exact ih11911 v11927 f11926 ⟨by omega, by omega⟩ hf11926 (show ∀ j : Nat, (j : Int) ≤ (w11870_i_12_41 : Int32).toInt → (j : Int) ≠ (v11927 : Int32).toInt → (f11926 j).toInt < ((iv 12 23) : Int32).toInt from (fun j h1 h2 => by
                                    rw [ef11926]
                                    by_cases hj : j = (x11910_3 : Int32).toNatClampNeg
                                    · rw [hj, upd_eq, ev11917]; exact hq11911_0 _ (by show (((v11916 : Int32).toInt.toNat : Nat) : Int) ≤ _; omega) (by show (((v11916 : Int32).toInt.toNat : Nat) : Int) ≠ _; omega)
                                    · rw [upd_ne hj]; have hj2 : j ≠ (x11910_3 : Int32).toInt.toNat := hj; exact hq11911_0 j h1 (by omega))) (show ∃ g : Nat → Int32, OrK (x11870_2 : Int32).toInt (fun r => (w11395_a_12_39 r).toInt = 1) (fa 12 24) g (w11870_i_12_41 : Int32).toInt ∧ Shf (fa 12 24) g f11926 ((fa 12 24) ((x11870_2 : Int32).toInt).toNat).toInt (v11927 : Int32).toInt (w11870_i_12_41 : Int32).toInt from (by
                                    obtain ⟨g9, ga, gb⟩ := hq11911_1
                                    have he9 : (v11916 : Int32).toNatClampNeg = ((v11927 : Int32).toInt).toNat := by show (v11916 : Int32).toInt.toNat = _; omega
                                    have hp9 : v11917 = w11910_a_12_40 ((v11927 : Int32).toInt).toNat := by rw [← he9]; exact ev11917
                                    have hd1 := congrArg Int32.toInt (show v11918 = fa 12 24 ((v11917 : Int32).toInt).toNat from ev11918)
                                    have hd2 := congrArg Int32.toInt (show v11919 = fa 12 24 ((x11870_2 : Int32).toInt).toNat from ev11919)
                                    rw [hp9] at hd1
                                    exact ⟨g9, ga, Shf_s (i := (x11910_3 : Int32).toInt) (by omega) (by omega) (by omega) (by omega) (fun t ht => by rw [ef11926, upd_ne (show t ≠ (x11910_3 : Int32).toNatClampNeg from ht)]) (by rw [ef11926, show ((x11910_3 : Int32).toInt).toNat = (x11910_3 : Int32).toNatClampNeg from rfl, upd_eq]; exact hp9) gb⟩)) (show (v11927 : Int32).toInt ≤ (w11870_i_12_41 : Int32).toInt from by omega) (show 0 ≤ (v11927 : Int32).toInt from by omega) (by omega) _ _ ls hP hD hS (lv_sub hl [0, 1, 2, 3] rfl)
                      exact lp11911 9 w11870_i_12_41 w11870_a_12_40 ⟨by omega, by omega⟩ hw11870_a_12_40 (show ∀ j : Nat, (j : Int) ≤ (w11870_i_12_41 : Int32).toInt → (j : Int) ≠ (w11870_i_12_41 : Int32).toInt → (w11870_a_12_40 j).toInt < ((iv 12 23) : Int32).toInt from (fun j h1 h2 => hq11871_0 j (by omega))) (show ∃ g : Nat → Int32, OrK (x11870_2 : Int32).toInt (fun r => (w11395_a_12_39 r).toInt = 1) (fa 12 24) g (w11870_i_12_41 : Int32).toInt ∧ Shf (fa 12 24) g w11870_a_12_40 ((fa 12 24) ((x11870_2 : Int32).toInt).toNat).toInt (w11870_i_12_41 : Int32).toInt (w11870_i_12_41 : Int32).toInt from ⟨_, hq11871_1, Shf_0⟩) (show (w11870_i_12_41 : Int32).toInt ≤ (w11870_i_12_41 : Int32).toInt from by omega) (show 0 ≤ (w11870_i_12_41 : Int32).toInt from by omega) (by first | decide | omega) _ _ ls hP hD hS (lv_sub hl [0, 1, 2, 3] rfl)
              have : (0 : Int32).toInt = 0 := (by decide)
              exact lp11871 9 0 0 (fa 12 40) ⟨by decide, by decide⟩ ⟨by decide, by decide⟩ (hI.2 12 40) (show ∀ j : Nat, (j : Int) < (0 : Int32).toInt → ((fa 12 40) j).toInt < ((iv 12 23) : Int32).toInt from fun j h => by omega) (show OrK (0 : Int32).toInt (fun r => (w11395_a_12_39 r).toInt = 1) (fa 12 24) (fa 12 40) (0 : Int32).toInt from (by have hz : (0 : Int32).toInt = 0 := (by decide); rw [hz]; exact OrK_0)) (show (0 : Int32).toInt ≤ (0 : Int32).toInt from by omega) (show 0 ≤ (0 : Int32).toInt from by omega) (show (0 : Int32).toInt ≤ ((iv 12 23) : Int32).toInt from by omega) (by first | decide | omega) _ _ ls hP hD hS (lv_sub hl [0, 1, 2] rfl)
            · have fc11397 := z_nlt (rfl : (x11395_2).toInt = _) (by decide : (0 : Int32).toInt = 0) c11397
              refine lv_bipush (v := 12) hx hb dX12_findRules_48 (by decide) ?_
              refine lv_iload_n hx hb dX12_findRules_50 rfl (lv_at hl 0 rfl) ?_
              refine lv_imul hx hb dX12_findRules_51 ?_
              refine lv_topi (fun v11928 ev11928 => ?_)
              have tv11928 := z_mul ev11928 (by decide : (12 : Int32).toInt = 12) (rfl : (x11395_2).toInt = _) (by omega) (by omega)
              have hb9 : 0 ≤ (fa 12 25 ((x11395_2 : Int32).toInt).toNat).toInt ∧ (fa 12 25 ((x11395_2 : Int32).toInt).toNat).toInt ≤ 12 := hI.2 12 25 _
              refine lv_istore_n (lv' := [(3, .int v11928), (2, .int x11395_2), (0, .ref h), (1, .int a)]) hx hb dX12_findRules_52 rfl hl (by decide) rfl (fun ls hl => ?_)
              have lp11975 : ∀ (nn11975 : Nat) (x11974_3 : Int32) (w11974_a_12_39 : Nat → Int32), 0 ≤ x11974_3.toInt ∧ x11974_3.toInt ≤ 96 → (∀ j, inb (bA 12 39 j) (w11974_a_12_39 j)) → (∃ g : Nat → Int32, Pa ((iv 12 23) : Int32).toInt (x11395_2 : Int32).toInt g (fa 12 24) (St (fa 12 25) (mX (fa 12 26) 3) (fa 12 28)) (a).toInt ∧ Pb ((iv 12 23) : Int32).toInt (x11395_2 : Int32).toInt g w11974_a_12_39 (mX (fa 12 26) 3) (fa 12 28) (x11974_3 : Int32).toInt) → 12 * (x11395_2 : Int32).toInt ≤ (x11974_3 : Int32).toInt → (x11974_3 : Int32).toInt ≤ 12 * (x11395_2 : Int32).toInt + ((fa 12 25) ((x11395_2 : Int32).toInt).toNat).toInt → 96 - x11974_3.toInt < (nn11975 : Int) → ∀ (H : Heap) (locs : List Loc), ∀ (ls : Array Slot), va_P (dC, dI) classes (WM h g ca iv lv (u2 fa 12 39 w11974_a_12_39) la) H → va_D A (WM h g ca iv lv (u2 fa 12 39 w11974_a_12_39) la) → va_S A s.heap H locs → lv_has ls 4 [(3, .int x11974_3), (2, .int x11395_2), (0, .ref h), (1, .int a)] → W p l e ({ frames := 0, cells := 0, slots := 0, locals := 0 } : Room) s m ([.ref h, .int a] : List Value).toArray below meth c H locs 0 0 (MQ below (va_Qv (fun (u : SS) => ∃ (na_12_39 : Nat → Int32) (na_12_40 : Nat → Int32) (ni_12_41 : Int32), (∀ j, inb (bA 12 39 j) (na_12_39 j)) ∧ (∀ j, inb (bA 12 40 j) (na_12_40 j)) ∧ inb (bI 12 41) ni_12_41 ∧ (∀ j : Nat, (j : Int) < (ni_12_41).toInt → (na_12_40 j).toInt < (iv 12 23).toInt) ∧ ((ni_12_41).toInt ≤ (iv 12 23).toInt) ∧ (OnR (iv 12 23).toInt (fun r => (na_12_39 r).toInt = 1) (fa 12 24) (St (fa 12 25) (mX (fa 12 26) 3) (fa 12 28)) a.toInt) ∧ (OrK (iv 12 23).toInt (fun r => (na_12_39 r).toInt = 1) (fa 12 24) na_12_40 (ni_12_41).toInt) ∧ u = ((u2 iv 12 41 ni_12_41), lv, (u2 (u2 fa 12 39 na_12_39) 12 40 na_12_40), la)) (bM (dC, dI) h g ca A) A) ([.ref h, .int a] : List Value).toArray s 0 0 A) (F0 m 53 ls []) := by
                intro nn11975
                induction nn11975 with
                | zero => intro x11974_3 w11974_a_12_39 hx11974_3 hw11974_a_12_39 hq11975_0 hq11975_1 hq11975_2 hm11975; exfalso; omega
                | succ nn11975 ih11975 =>
                  intro x11974_3 w11974_a_12_39 hx11974_3 hw11974_a_12_39 hq11975_0 hq11975_1 hq11975_2 hm11975 H locs ls hP hD hS hl
                  refine lv_iload_n hx hb dX12_findRules_53 rfl (lv_at hl 0 rfl) ?_
                  refine lv_bipush (v := 12) hx hb dX12_findRules_54 (by decide) ?_
                  refine lv_iload_n hx hb dX12_findRules_56 rfl (lv_at hl 1 rfl) ?_
                  refine lv_imul hx hb dX12_findRules_57 ?_
                  refine lv_topi (fun v11976 ev11976 => ?_)
                  obtain rfl : v11928 = v11976 := ev11928.trans ev11976.symm
                  refine lv_aload_n hx hb dX12_findRules_58 rfl (lv_at hl 2 rfl) ?_
                  refine gM_12_25 hx hb ht hown hK hP m_1164 dX12_findRules_59 ?_
                  refine lv_iload_n hx hb dX12_findRules_62 rfl (lv_at hl 1 rfl) ?_
                  refine lM_12_25 hx hb hK hP (f := (fa 12 25)) rfl (vp_in_iff.mpr ⟨by omega, by omega⟩) dX12_findRules_63 ?_
                  refine lv_topi (fun v11977 ev11977 => ?_)
                  have tv11977 : 0 ≤ v11977.toInt ∧ v11977.toInt ≤ 12 := by rw [ev11977]; exact hI.2 12 25 _
                  have hn9 := congrArg Int32.toInt (show v11977 = fa 12 25 ((x11395_2 : Int32).toInt).toNat from ev11977)
                  refine lv_iadd hx hb dX12_findRules_64 ?_
                  refine lv_topi (fun v11978 ev11978 => ?_)
                  have tv11978 := z_add ev11978 (rfl : (v11928).toInt = _) (rfl : (v11977).toInt = _) (by omega) (by omega)
                  refine lv_icmp_ge (tgt := 105) hx hb dX12_findRules_65 (by decide) (fun c11979 => ?_) (fun c11979 => ?_)
                  · have fc11979 := z_le (rfl : (v11978).toInt = _) (rfl : (x11974_3).toInt = _) c11979
                    obtain ⟨v11980, ev11980⟩ : ∃ y : Int32, y = x11395_2 + (-1) := ⟨_, rfl⟩
                    have tv11980 := z_add ev11980 rfl (by decide : ((-1) : Int32).toInt = (-1)) (by omega) (by omega)
                    refine lv_iinc (v := v11980) (lv' := [(2, .int v11980), (3, .int x11974_3), (0, .ref h), (1, .int a)]) hx hb dX12_findRules_105 hl (k := 1) rfl (by rw [ev11980]; rfl) (by decide) rfl (fun ls hl => ?_)
                    refine lv_goto (tgt := 44) hx hb dX12_findRules_108 (by decide) ?_
                    exact ih11396 v11980 w11974_a_12_39 ⟨by omega, by omega⟩ hw11974_a_12_39 (show Pa ((iv 12 23) : Int32).toInt (v11980 : Int32).toInt w11974_a_12_39 (fa 12 24) (St (fa 12 25) (mX (fa 12 26) 3) (fa 12 28)) (a).toInt from (by
                          obtain ⟨g9, ga, gb⟩ := hq11975_0
                          have hn9 := congrArg Int32.toInt (show v11977 = fa 12 25 ((x11395_2 : Int32).toInt).toNat from ev11977)
                          have hk9 : ((((x11395_2 : Int32).toInt).toNat : Nat) : Int) = (x11395_2 : Int32).toInt := Int.toNat_of_nonneg (by omega)
                          exact Pb_end (k := (x11395_2 : Int32).toInt) (c := (x11974_3 : Int32).toInt) (by omega) (by omega) (by omega) (fun j h1 h2 h3 => by have h5 := hJK ((x11395_2 : Int32).toInt).toNat j (by omega) (by omega) (by omega) h3; omega) (Or.inl (by omega)) ga gb)) (show (v11980 : Int32).toInt + 1 ≤ ((iv 12 23) : Int32).toInt from by omega) (show -1 ≤ (v11980 : Int32).toInt from by omega) (by omega) _ _ ls hP hD hS (lv_sub hl [0, 2, 3] rfl)
                  · have fc11979 := z_nle (rfl : (v11978).toInt = _) (rfl : (x11974_3).toInt = _) c11979
                    refine lv_aload_n hx hb dX12_findRules_68 rfl (lv_at hl 2 rfl) ?_
                    refine gM_12_39 hx hb ht hown hK hP m_1178 dX12_findRules_69 ?_
                    refine lv_iload_n hx hb dX12_findRules_72 rfl (lv_at hl 1 rfl) ?_
                    refine lM_12_39 hx hb hK hP (f := w11974_a_12_39) rfl (vp_in_iff.mpr ⟨by omega, by omega⟩) dX12_findRules_73 ?_
                    refine lv_topi (fun v11981 ev11981 => ?_)
                    have tv11981 : 0 ≤ v11981.toInt ∧ v11981.toInt ≤ 1 := by rw [ev11981]; exact hw11974_a_12_39 _
                    refine lv_if_eq (tgt := 105) hx hb dX12_findRules_74 (by decide) (fun c11982 => ?_) (fun c11982 => ?_)
                    · have fc11982 := z_eq (rfl : (v11981).toInt = _) (by decide : (0 : Int32).toInt = 0) c11982
                      obtain ⟨v11983, ev11983⟩ : ∃ y : Int32, y = x11395_2 + (-1) := ⟨_, rfl⟩
                      have tv11983 := z_add ev11983 rfl (by decide : ((-1) : Int32).toInt = (-1)) (by omega) (by omega)
                      refine lv_iinc (v := v11983) (lv' := [(2, .int v11983), (3, .int x11974_3), (0, .ref h), (1, .int a)]) hx hb dX12_findRules_105 hl (k := 1) rfl (by rw [ev11983]; rfl) (by decide) rfl (fun ls hl => ?_)
                      refine lv_goto (tgt := 44) hx hb dX12_findRules_108 (by decide) ?_
                      exact ih11396 v11983 w11974_a_12_39 ⟨by omega, by omega⟩ hw11974_a_12_39 (show Pa ((iv 12 23) : Int32).toInt (v11983 : Int32).toInt w11974_a_12_39 (fa 12 24) (St (fa 12 25) (mX (fa 12 26) 3) (fa 12 28)) (a).toInt from (by
                            obtain ⟨g9, ga, gb⟩ := hq11975_0
                            have hn9 := congrArg Int32.toInt (show v11977 = fa 12 25 ((x11395_2 : Int32).toInt).toNat from ev11977)
                            have hk9 : ((((x11395_2 : Int32).toInt).toNat : Nat) : Int) = (x11395_2 : Int32).toInt := Int.toNat_of_nonneg (by omega)
                            exact Pb_end (k := (x11395_2 : Int32).toInt) (c := (x11974_3 : Int32).toInt) (by omega) (by omega) (by omega) (fun j h1 h2 h3 => by have h5 := hJK ((x11395_2 : Int32).toInt).toNat j (by omega) (by omega) (by omega) h3; omega) (Or.inr (by have ho9 := congrArg Int32.toInt (show v11981 = w11974_a_12_39 ((x11395_2 : Int32).toInt).toNat from ev11981); omega)) ga gb)) (show (v11983 : Int32).toInt + 1 ≤ ((iv 12 23) : Int32).toInt from by omega) (show -1 ≤ (v11983 : Int32).toInt from by omega) (by omega) _ _ ls hP hD hS (lv_sub hl [0, 2, 3] rfl)
                    · have fc11982 := z_ne (rfl : (v11981).toInt = _) (by decide : (0 : Int32).toInt = 0) c11982
                      refine lv_aload_n hx hb dX12_findRules_77 rfl (lv_at hl 2 rfl) ?_
                      refine gM_12_26 hx hb ht hown hK hP m_1165 dX12_findRules_78 ?_
                      refine lv_iload_n hx hb dX12_findRules_81 rfl (lv_at hl 0 rfl) ?_
                      refine lM_12_26 hx hb hK hP (f := (fa 12 26)) rfl (vp_in_iff.mpr ⟨by omega, by omega⟩) dX12_findRules_82 ?_
                      refine lv_topi (fun v11984 ev11984 => ?_)
                      refine lv_iconst (v := 3) hx hb dX12_findRules_83 (by decide) ?_
                      refine lv_icmp_ne (tgt := 99) hx hb dX12_findRules_84 (by decide) (fun c11985 => ?_) (fun c11985 => ?_)
                      · have fc11985 := z_ne (rfl : (v11984).toInt = _) (by decide : (3 : Int32).toInt = 3) c11985
                        obtain ⟨v11986, ev11986⟩ : ∃ y : Int32, y = x11974_3 + 1 := ⟨_, rfl⟩
                        have tv11986 := z_add ev11986 rfl (by decide : (1 : Int32).toInt = 1) (by omega) (by omega)
                        refine lv_iinc (v := v11986) (lv' := [(3, .int v11986), (2, .int x11395_2), (0, .ref h), (1, .int a)]) hx hb dX12_findRules_99 hl (k := 0) rfl (by rw [ev11986]; rfl) (by decide) rfl (fun ls hl => ?_)
                        refine lv_goto (tgt := 53) hx hb dX12_findRules_102 (by decide) ?_
                        exact ih11975 v11986 w11974_a_12_39 ⟨by omega, by omega⟩ hw11974_a_12_39 (show ∃ g : Nat → Int32, Pa ((iv 12 23) : Int32).toInt (x11395_2 : Int32).toInt g (fa 12 24) (St (fa 12 25) (mX (fa 12 26) 3) (fa 12 28)) (a).toInt ∧ Pb ((iv 12 23) : Int32).toInt (x11395_2 : Int32).toInt g w11974_a_12_39 (mX (fa 12 26) 3) (fa 12 28) (v11986 : Int32).toInt from (by
                              obtain ⟨g9, ga, gb⟩ := hq11975_0
                              have hv9 := congrArg Int32.toInt (show v11984 = fa 12 26 ((x11974_3 : Int32).toInt).toNat from ev11984)
                              have ho9 := congrArg Int32.toInt (show v11981 = w11974_a_12_39 ((x11395_2 : Int32).toInt).toNat from ev11981)
                              exact ⟨g9, ga, Pb_n (j := ((x11974_3 : Int32).toInt).toNat) (c := (x11974_3 : Int32).toInt) (by omega) (by omega) (show ¬ (fa 12 26 ((x11974_3 : Int32).toInt).toNat).toInt = 3 from by omega) gb⟩)) (show 12 * (x11395_2 : Int32).toInt ≤ (v11986 : Int32).toInt from by omega) (show (v11986 : Int32).toInt ≤ 12 * (x11395_2 : Int32).toInt + ((fa 12 25) ((x11395_2 : Int32).toInt).toNat).toInt from by omega) (by omega) _ _ ls hP hD hS (lv_sub hl [0, 1, 2, 3] rfl)
                      · have fc11985 := z_eq (rfl : (v11984).toInt = _) (by decide : (3 : Int32).toInt = 3) c11985
                        refine lv_aload_n hx hb dX12_findRules_87 rfl (lv_at hl 2 rfl) ?_
                        refine gM_12_39 hx hb ht hown hK hP m_1178 dX12_findRules_88 ?_
                        refine lv_aload_n hx hb dX12_findRules_91 rfl (lv_at hl 2 rfl) ?_
                        refine gM_12_28 hx hb ht hown hK hP m_1167 dX12_findRules_92 ?_
                        refine lv_iload_n hx hb dX12_findRules_95 rfl (lv_at hl 0 rfl) ?_
                        refine lM_12_28 hx hb hK hP (f := (fa 12 28)) rfl (vp_in_iff.mpr ⟨by omega, by omega⟩) dX12_findRules_96 ?_
                        refine lv_topi (fun v11987 ev11987 => ?_)
                        refine lv_iconst (v := 0) hx hb dX12_findRules_97 (by decide) ?_
                        have gq := hJC x11395_2 x11974_3 (by omega) (by omega) (by omega) (by rw [← ev11977]; omega)
                        rw [← ev11984, ← ev11987] at gq
                        have gq2 := gq.1 (by omega)
                        refine tM_12_39 hx hb hK hP hD hS (f0 := w11974_a_12_39) rfl (i := v11987) (x := 0) (vp_in_iff.mpr ⟨by omega, by omega⟩) dX12_findRules_98 (fun f11988 ef11988 H locs hP hD hS => ?_)
                        have hf11988 : ∀ j, inb (bA 12 39 j) (f11988 j) := by rw [ef11988]; exact upd_b (b := bA 12 39) hw11974_a_12_39 (show inb (0, 1) (vp_nar .boolean 0) from ⟨by decide, by decide⟩)
                        have hP : va_P (dC, dI) classes (WM h g ca iv lv (u2 fa 12 39 f11988) la) H := hP
                        have hD : va_D A (WM h g ca iv lv (u2 fa 12 39 f11988) la) := hD
                        obtain ⟨v11989, ev11989⟩ : ∃ y : Int32, y = x11974_3 + 1 := ⟨_, rfl⟩
                        have tv11989 := z_add ev11989 rfl (by decide : (1 : Int32).toInt = 1) (by omega) (by omega)
                        refine lv_iinc (v := v11989) (lv' := [(3, .int v11989), (2, .int x11395_2), (0, .ref h), (1, .int a)]) hx hb dX12_findRules_99 hl (k := 0) rfl (by rw [ev11989]; rfl) (by decide) rfl (fun ls hl => ?_)
                        refine lv_goto (tgt := 53) hx hb dX12_findRules_102 (by decide) ?_
                        exact ih11975 v11989 f11988 ⟨by omega, by omega⟩ hf11988 (show ∃ g : Nat → Int32, Pa ((iv 12 23) : Int32).toInt (x11395_2 : Int32).toInt g (fa 12 24) (St (fa 12 25) (mX (fa 12 26) 3) (fa 12 28)) (a).toInt ∧ Pb ((iv 12 23) : Int32).toInt (x11395_2 : Int32).toInt g f11988 (mX (fa 12 26) 3) (fa 12 28) (v11989 : Int32).toInt from (by
                              obtain ⟨g9, ga, gb⟩ := hq11975_0
                              have hv9 := congrArg Int32.toInt (show v11984 = fa 12 26 ((x11974_3 : Int32).toInt).toNat from ev11984)
                              have ho9 := congrArg Int32.toInt (show v11981 = w11974_a_12_39 ((x11395_2 : Int32).toInt).toNat from ev11981)
                              have hn9 := congrArg Int32.toInt (show v11977 = fa 12 25 ((x11395_2 : Int32).toInt).toNat from ev11977)
                              have hk9 : ((((x11395_2 : Int32).toInt).toNat : Nat) : Int) = (x11395_2 : Int32).toInt := Int.toNat_of_nonneg (by omega)
                              have hx9 := congrArg Int32.toInt (show v11987 = fa 12 28 ((x11974_3 : Int32).toInt).toNat from ev11987)
                              have hi9 : ((fa 12 28 ((x11974_3 : Int32).toInt).toNat).toInt).toNat = (v11987 : Int32).toNatClampNeg := by show _ = (v11987 : Int32).toInt.toNat; omega
                              have h5 := hJK ((x11395_2 : Int32).toInt).toNat ((x11974_3 : Int32).toInt).toNat (by omega) (by omega) (by omega) (by omega)
                              exact ⟨g9, ga, Pb_y (j := ((x11974_3 : Int32).toInt).toNat) (c := (x11974_3 : Int32).toInt) (by omega) (by omega) (by omega) (show (fa 12 26 ((x11974_3 : Int32).toInt).toNat).toInt = 3 from by omega) (by omega) (by omega) ⟨by omega, by omega⟩ (fun r hr => by rw [hi9] at hr; rw [ef11988, upd_ne hr]) (by rw [hi9, ef11988, upd_eq]; decide) gb⟩)) (show 12 * (x11395_2 : Int32).toInt ≤ (v11989 : Int32).toInt from by omega) (show (v11989 : Int32).toInt ≤ 12 * (x11395_2 : Int32).toInt + ((fa 12 25) ((x11395_2 : Int32).toInt).toNat).toInt from by omega) (by omega) _ _ ls hP hD hS (lv_sub hl [0, 1, 2, 3] rfl)
              exact lp11975 97 v11928 w11395_a_12_39 ⟨by omega, by omega⟩ hw11395_a_12_39 (show ∃ g : Nat → Int32, Pa ((iv 12 23) : Int32).toInt (x11395_2 : Int32).toInt g (fa 12 24) (St (fa 12 25) (mX (fa 12 26) 3) (fa 12 28)) (a).toInt ∧ Pb ((iv 12 23) : Int32).toInt (x11395_2 : Int32).toInt g w11395_a_12_39 (mX (fa 12 26) 3) (fa 12 28) (v11928 : Int32).toInt from ⟨_, hq11396_0, (by rw [show (v11928 : Int32).toInt = 12 * (x11395_2 : Int32).toInt from by omega]; exact Pb_0)⟩) (show 12 * (x11395_2 : Int32).toInt ≤ (v11928 : Int32).toInt from by omega) (show (v11928 : Int32).toInt ≤ 12 * (x11395_2 : Int32).toInt + ((fa 12 25) ((x11395_2 : Int32).toInt).toNat).toInt from by omega) (by first | decide | omega) _ _ ls hP hD hS (lv_sub hl [0, 1, 2, 3] rfl)
        exact lp11396 9 v10206 w10203_a_12_39 ⟨by omega, by omega⟩ hw10203_a_12_39 (show Pa ((iv 12 23) : Int32).toInt (v10206 : Int32).toInt w10203_a_12_39 (fa 12 24) (St (fa 12 25) (mX (fa 12 26) 3) (fa 12 28)) (a).toInt from (by have hq9 := Pa_0 (n := (iv 12 23).toInt) (st := (St (fa 12 25) (mX (fa 12 26) 3) (fa 12 28))) (fun r hr => hq10204_0 r (by omega)); have he9 : (v10206 : Int32).toInt = (iv 12 23).toInt - 1 := (by omega); rw [he9]; exact hq9)) (show (v10206 : Int32).toInt + 1 ≤ ((iv 12 23) : Int32).toInt from by omega) (show -1 ≤ (v10206 : Int32).toInt from by omega) (by first | decide | omega) _ _ ls hP hD hS (lv_sub hl [0, 1, 2] rfl)
      · have fc10205 := z_nle (rfl : ((iv 12 23)).toInt = _) (rfl : (x10203_2).toInt = _) c10205
        refine lv_aload_n hx hb dX12_findRules_10 rfl (lv_at hl 1 rfl) ?_
        refine gM_12_39 hx hb ht hown hK hP m_1178 dX12_findRules_11 ?_
        refine lv_iload_n hx hb dX12_findRules_14 rfl (lv_at hl 0 rfl) ?_
        refine lv_aload_n hx hb dX12_findRules_15 rfl (lv_at hl 1 rfl) ?_
        refine gM_12_24 hx hb ht hown hK hP m_1163 dX12_findRules_16 ?_
        refine lv_iload_n hx hb dX12_findRules_19 rfl (lv_at hl 0 rfl) ?_
        refine lM_12_24 hx hb hK hP (f := (fa 12 24)) rfl (vp_in_iff.mpr ⟨by omega, by omega⟩) dX12_findRules_20 ?_
        refine lv_topi (fun v11990 ev11990 => ?_)
        refine lv_iload_n hx hb dX12_findRules_21 rfl (lv_at hl 2 rfl) ?_
        refine lv_icmp_gt (tgt := 29) hx hb dX12_findRules_22 (by decide) (fun c11991 => ?_) (fun c11991 => ?_)
        · have fc11991 := z_lt (rfl : (a).toInt = _) (rfl : (v11990).toInt = _) c11991
          refine lv_iconst (v := 0) hx hb dX12_findRules_29 (by decide) ?_
          refine tM_12_39 hx hb hK hP hD hS (f0 := w10203_a_12_39) rfl (i := x10203_2) (x := 0) (vp_in_iff.mpr ⟨by omega, by omega⟩) dX12_findRules_30 (fun f11992 ef11992 H locs hP hD hS => ?_)
          have hf11992 : ∀ j, inb (bA 12 39 j) (f11992 j) := by rw [ef11992]; exact upd_b (b := bA 12 39) hw10203_a_12_39 (show inb (0, 1) (vp_nar .boolean 0) from ⟨by decide, by decide⟩)
          have hP : va_P (dC, dI) classes (WM h g ca iv lv (u2 fa 12 39 f11992) la) H := hP
          have hD : va_D A (WM h g ca iv lv (u2 fa 12 39 f11992) la) := hD
          obtain ⟨v11993, ev11993⟩ : ∃ y : Int32, y = x10203_2 + 1 := ⟨_, rfl⟩
          have tv11993 := z_add ev11993 rfl (by decide : (1 : Int32).toInt = 1) (by omega) (by omega)
          refine lv_iinc (v := v11993) (lv' := [(2, .int v11993), (0, .ref h), (1, .int a)]) hx hb dX12_findRules_31 hl (k := 0) rfl (by rw [ev11993]; rfl) (by decide) rfl (fun ls hl => ?_)
          refine lv_goto (tgt := 2) hx hb dX12_findRules_34 (by decide) ?_
          exact ih10204 v11993 f11992 ⟨by omega, by omega⟩ hf11992 (show ∀ r : Nat, (r : Int) < (v11993 : Int32).toInt → ((f11992 r).toInt = 1 ↔ ((fa 12 24) r).toInt ≤ (a).toInt) from (fun r h => by
                by_cases hj : (r : Int) < (x10203_2 : Int32).toInt
                · rw [ef11992, upd_ne (by show r ≠ (x10203_2 : Int32).toInt.toNat; omega)]; exact hq10204_0 r hj
                · have hj2 : r = ((x10203_2 : Int32).toInt).toNat := by omega
                  have hv9 := congrArg Int32.toInt (show v11990 = fa 12 24 ((x10203_2 : Int32).toInt).toNat from ev11990)
                  have hw9 : (f11992 ((x10203_2 : Int32).toInt).toNat).toInt = 0 := by rw [ef11992, show ((x10203_2 : Int32).toInt).toNat = (x10203_2 : Int32).toNatClampNeg from rfl, upd_eq]; decide
                  rw [hj2]
                  omega)) (show (v11993 : Int32).toInt ≤ ((iv 12 23) : Int32).toInt from by omega) (by omega) _ _ ls hP hD hS (lv_sub hl [0, 1, 2] rfl)
        · have fc11991 := z_nlt (rfl : (a).toInt = _) (rfl : (v11990).toInt = _) c11991
          refine lv_iconst (v := 1) hx hb dX12_findRules_25 (by decide) ?_
          refine lv_goto (tgt := 30) hx hb dX12_findRules_26 (by decide) ?_
          refine tM_12_39 hx hb hK hP hD hS (f0 := w10203_a_12_39) rfl (i := x10203_2) (x := 1) (vp_in_iff.mpr ⟨by omega, by omega⟩) dX12_findRules_30 (fun f11994 ef11994 H locs hP hD hS => ?_)
          have hf11994 : ∀ j, inb (bA 12 39 j) (f11994 j) := by rw [ef11994]; exact upd_b (b := bA 12 39) hw10203_a_12_39 (show inb (0, 1) (vp_nar .boolean 1) from ⟨by decide, by decide⟩)
          have hP : va_P (dC, dI) classes (WM h g ca iv lv (u2 fa 12 39 f11994) la) H := hP
          have hD : va_D A (WM h g ca iv lv (u2 fa 12 39 f11994) la) := hD
          obtain ⟨v11995, ev11995⟩ : ∃ y : Int32, y = x10203_2 + 1 := ⟨_, rfl⟩
          have tv11995 := z_add ev11995 rfl (by decide : (1 : Int32).toInt = 1) (by omega) (by omega)
          refine lv_iinc (v := v11995) (lv' := [(2, .int v11995), (0, .ref h), (1, .int a)]) hx hb dX12_findRules_31 hl (k := 0) rfl (by rw [ev11995]; rfl) (by decide) rfl (fun ls hl => ?_)
          refine lv_goto (tgt := 2) hx hb dX12_findRules_34 (by decide) ?_
          exact ih10204 v11995 f11994 ⟨by omega, by omega⟩ hf11994 (show ∀ r : Nat, (r : Int) < (v11995 : Int32).toInt → ((f11994 r).toInt = 1 ↔ ((fa 12 24) r).toInt ≤ (a).toInt) from (fun r h => by
                by_cases hj : (r : Int) < (x10203_2 : Int32).toInt
                · rw [ef11994, upd_ne (by show r ≠ (x10203_2 : Int32).toInt.toNat; omega)]; exact hq10204_0 r hj
                · have hj2 : r = ((x10203_2 : Int32).toInt).toNat := by omega
                  have hv9 := congrArg Int32.toInt (show v11990 = fa 12 24 ((x10203_2 : Int32).toInt).toNat from ev11990)
                  have hw9 : (f11994 ((x10203_2 : Int32).toInt).toNat).toInt = 1 := by rw [ef11994, show ((x10203_2 : Int32).toInt).toNat = (x10203_2 : Int32).toNatClampNeg from rfl, upd_eq]; decide
                  rw [hj2]
                  omega)) (show (v11995 : Int32).toInt ≤ ((iv 12 23) : Int32).toInt from by omega) (by omega) _ _ ls hP hD hS (lv_sub hl [0, 1, 2] rfl)
  have : (0 : Int32).toInt = 0 := (by decide)
  have i_12_23 : 0 ≤ (iv 12 23).toInt ∧ (iv 12 23).toInt ≤ 8 := hI.1 12 23
  exact lp10204 9 0 (fa 12 39) ⟨by decide, by decide⟩ (hI.2 12 39) (show ∀ r : Nat, (r : Int) < (0 : Int32).toInt → (((fa 12 39) r).toInt = 1 ↔ ((fa 12 24) r).toInt ≤ (a).toInt) from fun r h => absurd h (by omega)) (show (0 : Int32).toInt ≤ ((iv 12 23) : Int32).toInt from by omega) (by first | decide | omega) _ _ ls hP hD hS (lv_sub hl [0, 1, 2] rfl)
