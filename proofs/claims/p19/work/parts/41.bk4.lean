/-! ===== bk4 ===== -/
set_option maxHeartbeats 4000000 in
set_option maxRecDepth 100000 in
/-- X12_findRules -/
theorem c_X12_findRules_f (l : Launch) (dC : Nat → ClassId) (dI : Nat → Nat → Nat) (sz : Nat) (h : Nat) (g : Nat → Nat → Nat) (ca : Nat → Nat → ClassId) (iv : Nat → Nat → Int32) (lv : Nat → Nat → Int64) (fa : Nat → Nat → Nat → Int32) (la : Nat → Nat → Nat → Int64) (hI : IX iv fa) (a : Int32) (hJC : JCf (iv 12 23).toInt (fa 12 25) (fa 12 26) (fa 12 27) (fa 12 28)) (hJK : ∀ k j : Nat, (k : Int) < (iv 12 23).toInt → 12 * k ≤ j → (j : Int) < 12 * (k : Int) + (fa 12 25 k).toInt → (fa 12 26 j).toInt = 3 → 0 ≤ (fa 12 28 j).toInt ∧ (fa 12 28 j).toInt < (k : Int)) : Met l yX12_findRules (wc yX12_findRules cX12_findRules 4 none) ({ frames := 0, cells := 0, slots := 0, locals := 0 } : Room) (pW (dC, dI) classes (WM h g ca iv lv fa la) (TM ca) sz [.ref h, .int a]) (va_Qv (fun (u : SS) => ∃ (na_12_39 : Nat → Int32) (na_12_40 : Nat → Int32) (ni_12_41 : Int32), (∀ j, inb (bA 12 39 j) (na_12_39 j)) ∧ (∀ j, inb (bA 12 40 j) (na_12_40 j)) ∧ inb (bI 12 41) ni_12_41 ∧ (∀ j : Nat, (j : Int) < (ni_12_41).toInt → (na_12_40 j).toInt < (iv 12 23).toInt) ∧ ((ni_12_41).toInt ≤ (iv 12 23).toInt) ∧ (OnR (iv 12 23).toInt (fun r => (na_12_39 r).toInt = 1) (fa 12 24) (St (fa 12 25) (mX (fa 12 26) 3) (fa 12 28)) a.toInt) ∧ (OrK (iv 12 23).toInt (fun r => (na_12_39 r).toInt = 1) (fa 12 24) na_12_40 (ni_12_41).toInt) ∧ u = ((u2 iv 12 41 ni_12_41), lv, (u2 (u2 fa 12 39 na_12_39) 12 40 na_12_40), la)) (bM (dC, dI) h g ca (va_A (WM h g ca iv lv fa la) sz)) (va_A (WM h g ca iv lv fa la) sz)) 0 0 (va_A (WM h g ca iv lv fa la) sz) := by
  refine Met.ofW (cc := cX12_findRules) (maxL := 4) (ret := none) (by decide) rfl ?_
  intro p e s m args below meth c s₁ B hml hv
  obtain ⟨rfl, hsz, hP, hK, hD0⟩ := hv
  have hx := B.exec
  have hb := B.bytes
  have hr := B.returns
  have ht := tb_tl (atoms_spec (ws := wc yX12_findRules cX12_findRules 4 none) B.pre)
  have hown : s.vm.findClass RX12 = some m.cls := findClass_of_methodNamed B.named
  have hlocks := B.notSynchronized
  subst hsz
  have hD := hD0.self (sz := s.heap.size)
  generalize hAe : va_A (WM h g ca iv lv fa la) s.heap.size = A at hD ⊢
  have hA : ∀ q : Nat, s.heap.size ≤ q → A q := fun q h => by rw [← hAe]; exact Or.inr h
  have hS : va_S A s.heap s.heap [] := va_S.rf
  have hl := lv_entry [.ref h, .int a] (n := 4) (Nat.le_of_ble_eq_true rfl)
  rw [lg_entry_eq]
  generalize (lg_sl [.ref h, .int a] ++ List.replicate (4 - (lg_sl [.ref h, .int a]).length) Slot.unset).toArray = ls at hl ⊢
  have hl : lv_has ls 4 [(0, .ref h), (1, .int a)] := hl
  refine lv_iconst (v := 0) hx hb dX12_findRules_0 (by decide) ?_
  refine lv_istore_n (lv' := [(2, .int 0), (0, .ref h), (1, .int a)]) hx hb dX12_findRules_1 rfl hl (by decide) rfl (fun ls hl => ?_)
  have i_12_23 : 0 ≤ (iv 12 23).toInt ∧ (iv 12 23).toInt ≤ 8 := hI.1 12 23
  have lp10204 : ∀ (nn10204 : Nat) (x10203_2 : Int32) (w10203_a_12_39 : Nat → Int32), 0 ≤ x10203_2.toInt ∧ x10203_2.toInt ≤ 8 → (∀ j, inb (bA 12 39 j) (w10203_a_12_39 j)) → (∀ r : Nat, (r : Int) < (x10203_2 : Int32).toInt → ((w10203_a_12_39 r).toInt = 1 ↔ ((fa 12 24) r).toInt ≤ (a).toInt)) → (x10203_2 : Int32).toInt ≤ ((iv 12 23) : Int32).toInt → 8 - x10203_2.toInt < (nn10204 : Int) → ∀ (H : Heap) (locs : List Loc), ∀ (ls : Array Slot), va_P (dC, dI) classes (WM h g ca iv lv (u2 fa 12 39 w10203_a_12_39) la) H → va_D A (WM h g ca iv lv (u2 fa 12 39 w10203_a_12_39) la) → va_S A s.heap H locs → lv_has ls 4 [(2, .int x10203_2), (0, .ref h), (1, .int a)] → W p l e ({ frames := 0, cells := 0, slots := 0, locals := 0 } : Room) s m ([.ref h, .int a] : List Value).toArray below meth c H locs 0 0 (MQ below (va_Qv (fun (u : SS) => ∃ (na_12_39 : Nat → Int32) (na_12_40 : Nat → Int32) (ni_12_41 : Int32), (∀ j, inb (bA 12 39 j) (na_12_39 j)) ∧ (∀ j, inb (bA 12 40 j) (na_12_40 j)) ∧ inb (bI 12 41) ni_12_41 ∧ (∀ j : Nat, (j : Int) < (ni_12_41).toInt → (na_12_40 j).toInt < (iv 12 23).toInt) ∧ ((ni_12_41).toInt ≤ (iv 12 23).toInt) ∧ (OnR (iv 12 23).toInt (fun r => (na_12_39 r).toInt = 1) (fa 12 24) (St (fa 12 25) (mX (fa 12 26) 3) (fa 12 28)) a.toInt) ∧ (OrK (iv 12 23).toInt (fun r => (na_12_39 r).toInt = 1) (fa 12 24) na_12_40 (ni_12_41).toInt) ∧ u = ((u2 iv 12 41 ni_12_41), lv, (u2 (u2 fa 12 39 na_12_39) 12 40 na_12_40), la)) (bM (dC, dI) h g ca A) A) ([.ref h, .int a] : List Value).toArray s 0 0 A) (F0 m 2 ls []) := by
    intro nn10204
    induction nn10204 with
    | zero => intro x10203_2 w10203_a_12_39 hx10203_2 hw10203_a_12_39 hq10204_0 hq10204_1 hm10204; exfalso; omega
    | succ nn10204 ih10204 =>
      intro x10203_2 w10203_a_12_39 hx10203_2 hw10203_a_12_39 hq10204_0 hq10204_1 hm10204 H locs ls hP hD hS hl
      refine lv_iload_n hx hb dX12_findRules_2 rfl (lv_at hl 0 rfl) ?_
      refine lv_aload_n hx hb dX12_findRules_3 rfl (lv_at hl 1 rfl) ?_
      refine gM_12_23 hx hb ht hown hK hP m_1162 (v := (iv 12 23)) rfl dX12_findRules_4 ?_
      refine lv_icmp_ge (tgt := 37) hx hb dX12_findRules_7 (by decide) (fun c10205 => ?_) (fun c10205 => ?_)
      · have fc10205 := z_le (rfl : ((iv 12 23)).toInt = _) (rfl : (x10203_2).toInt = _) c10205
        refine lv_aload_n hx hb dX12_findRules_37 rfl (lv_at hl 1 rfl) ?_
        refine gM_12_23 hx hb ht hown hK hP m_1162 (v := (iv 12 23)) rfl dX12_findRules_38 ?_
        refine lv_iconst (v := 1) hx hb dX12_findRules_41 (by decide) ?_
        refine lv_isub hx hb dX12_findRules_42 ?_
        refine lv_topi (fun v10206 ev10206 => ?_)
        have tv10206 := z_sub ev10206 (rfl : ((iv 12 23)).toInt = _) (by decide : (1 : Int32).toInt = 1) (by omega) (by omega)
        refine lv_istore_n (lv' := [(2, .int v10206), (0, .ref h), (1, .int a)]) hx hb dX12_findRules_43 rfl hl (by decide) rfl (fun ls hl => ?_)
        have lp11396 : ∀ (nn11396 : Nat) (x11395_2 : Int32) (w11395_a_12_39 : Nat → Int32), (-1) ≤ x11395_2.toInt ∧ x11395_2.toInt ≤ 7 → (∀ j, inb (bA 12 39 j) (w11395_a_12_39 j)) → (Pa ((iv 12 23) : Int32).toInt (x11395_2 : Int32).toInt w11395_a_12_39 (fa 12 24) (St (fa 12 25) (mX (fa 12 26) 3) (fa 12 28)) (a).toInt) → (x11395_2 : Int32).toInt + 1 ≤ ((iv 12 23) : Int32).toInt → -1 ≤ (x11395_2 : Int32).toInt → x11395_2.toInt - (-1) < (nn11396 : Int) → ∀ (H : Heap) (locs : List Loc), ∀ (ls : Array Slot), va_P (dC, dI) classes (WM h g ca iv lv (u2 fa 12 39 w11395_a_12_39) la) H → va_D A (WM h g ca iv lv (u2 fa 12 39 w11395_a_12_39) la) → va_S A s.heap H locs → lv_has ls 4 [(2, .int x11395_2), (0, .ref h), (1, .int a)] → W p l e ({ frames := 0, cells := 0, slots := 0, locals := 0 } : Room) s m ([.ref h, .int a] : List Value).toArray below meth c H locs 0 0 (MQ below (va_Qv (fun (u : SS) => ∃ (na_12_39 : Nat → Int32) (na_12_40 : Nat → Int32) (ni_12_41 : Int32), (∀ j, inb (bA 12 39 j) (na_12_39 j)) ∧ (∀ j, inb (bA 12 40 j) (na_12_40 j)) ∧ inb (bI 12 41) ni_12_41 ∧ (∀ j : Nat, (j : Int) < (ni_12_41).toInt → (na_12_40 j).toInt < (iv 12 23).toInt) ∧ ((ni_12_41).toInt ≤ (iv 12 23).toInt) ∧ (OnR (iv 12 23).toInt (fun r => (na_12_39 r).toInt = 1) (fa 12 24) (St (fa 12 25) (mX (fa 12 26) 3) (fa 12 28)) a.toInt) ∧ (OrK (iv 12 23).toInt (fun r => (na_12_39 r).toInt = 1) (fa 12 24) na_12_40 (ni_12_41).toInt) ∧ u = ((u2 iv 12 41 ni_12_41), lv, (u2 (u2 fa 12 39 na_12_39) 12 40 na_12_40), la)) (bM (dC, dI) h g ca A) A) ([.ref h, .int a] : List Value).toArray s 0 0 A) (F0 m 44 ls []) := by
          intro nn11396
          induction nn11396 with
          | zero => intro x11395_2 w11395_a_12_39 hx11395_2 hw11395_a_12_39 hq11396_0 hq11396_1 hq11396_2 hm11396; exfalso; omega
          | succ nn11396 ih11396 =>
            intro x11395_2 w11395_a_12_39 hx11395_2 hw11395_a_12_39 hq11396_0 hq11396_1 hq11396_2 hm11396 H locs ls hP hD hS hl
            refine lv_iload_n hx hb dX12_findRules_44 rfl (lv_at hl 0 rfl) ?_
            refine lv_if_lt (tgt := 111) hx hb dX12_findRules_45 (by decide) (fun c11397 => ?_) (fun c11397 => ?_)
            · have fc11397 := z_lt (rfl : (x11395_2).toInt = _) (by decide : (0 : Int32).toInt = 0) c11397
              have on9 : OnR (iv 12 23).toInt (fun r => (w11395_a_12_39 r).toInt = 1) (fa 12 24) (St (fa 12 25) (mX (fa 12 26) 3) (fa 12 28)) a.toInt := Pa_end (by omega) hq11396_0
              refine lv_aload_n hx hb dX12_findRules_111 rfl (lv_at hl 1 rfl) ?_
              refine lv_iconst (v := 0) hx hb dX12_findRules_112 (by decide) ?_
              refine pM_12_41 (v := 0) hx hb ht hown hK hP hD hS m_1180 dX12_findRules_113 (fun H locs hP hD hS => ?_)
              refine lv_iconst (v := 0) hx hb dX12_findRules_116 (by decide) ?_
              refine lv_istore_n (lv' := [(2, .int 0), (0, .ref h), (1, .int a)]) hx hb dX12_findRules_117 rfl hl (by decide) rfl (fun ls hl => ?_)
              have lp11871 : ∀ (nn11871 : Nat) (x11870_2 : Int32) (w11870_i_12_41 : Int32) (w11870_a_12_40 : Nat → Int32), 0 ≤ x11870_2.toInt ∧ x11870_2.toInt ≤ 8 → 0 ≤ w11870_i_12_41.toInt ∧ w11870_i_12_41.toInt ≤ 8 → (∀ j, inb (bA 12 40 j) (w11870_a_12_40 j)) → (∀ j : Nat, (j : Int) < (w11870_i_12_41 : Int32).toInt → (w11870_a_12_40 j).toInt < ((iv 12 23) : Int32).toInt) → (OrK (x11870_2 : Int32).toInt (fun r => (w11395_a_12_39 r).toInt = 1) (fa 12 24) w11870_a_12_40 (w11870_i_12_41 : Int32).toInt) → (w11870_i_12_41 : Int32).toInt ≤ (x11870_2 : Int32).toInt → 0 ≤ (w11870_i_12_41 : Int32).toInt → (x11870_2 : Int32).toInt ≤ ((iv 12 23) : Int32).toInt → 8 - x11870_2.toInt < (nn11871 : Int) → ∀ (H : Heap) (locs : List Loc), ∀ (ls : Array Slot), va_P (dC, dI) classes (WM h g ca (u2 iv 12 41 w11870_i_12_41) lv (u2 (u2 fa 12 39 w11395_a_12_39) 12 40 w11870_a_12_40) la) H → va_D A (WM h g ca (u2 iv 12 41 w11870_i_12_41) lv (u2 (u2 fa 12 39 w11395_a_12_39) 12 40 w11870_a_12_40) la) → va_S A s.heap H locs → lv_has ls 4 [(2, .int x11870_2), (0, .ref h), (1, .int a)] → W p l e ({ frames := 0, cells := 0, slots := 0, locals := 0 } : Room) s m ([.ref h, .int a] : List Value).toArray below meth c H locs 0 0 (MQ below (va_Qv (fun (u : SS) => ∃ (na_12_39 : Nat → Int32) (na_12_40 : Nat → Int32) (ni_12_41 : Int32), (∀ j, inb (bA 12 39 j) (na_12_39 j)) ∧ (∀ j, inb (bA 12 40 j) (na_12_40 j)) ∧ inb (bI 12 41) ni_12_41 ∧ (∀ j : Nat, (j : Int) < (ni_12_41).toInt → (na_12_40 j).toInt < (iv 12 23).toInt) ∧ ((ni_12_41).toInt ≤ (iv 12 23).toInt) ∧ (OnR (iv 12 23).toInt (fun r => (na_12_39 r).toInt = 1) (fa 12 24) (St (fa 12 25) (mX (fa 12 26) 3) (fa 12 28)) a.toInt) ∧ (OrK (iv 12 23).toInt (fun r => (na_12_39 r).toInt = 1) (fa 12 24) na_12_40 (ni_12_41).toInt) ∧ u = ((u2 iv 12 41 ni_12_41), lv, (u2 (u2 fa 12 39 na_12_39) 12 40 na_12_40), la)) (bM (dC, dI) h g ca A) A) ([.ref h, .int a] : List Value).toArray s 0 0 A) (F0 m 118 ls []) := by
                intro nn11871
                induction nn11871 with
                | zero => intro x11870_2 w11870_i_12_41 w11870_a_12_40 hx11870_2 hw11870_i_12_41 hw11870_a_12_40 hq11871_0 hq11871_1 hq11871_2 hq11871_3 hq11871_4 hm11871; exfalso; omega
                | succ nn11871 ih11871 =>
                  intro x11870_2 w11870_i_12_41 w11870_a_12_40 hx11870_2 hw11870_i_12_41 hw11870_a_12_40 hq11871_0 hq11871_1 hq11871_2 hq11871_3 hq11871_4 hm11871 H locs ls hP hD hS hl
                  refine lv_iload_n hx hb dX12_findRules_118 rfl (lv_at hl 0 rfl) ?_
                  refine lv_aload_n hx hb dX12_findRules_119 rfl (lv_at hl 1 rfl) ?_
                  refine gM_12_23 hx hb ht hown hK hP m_1162 (v := (iv 12 23)) rfl dX12_findRules_120 ?_
                  refine lv_icmp_ge (tgt := 209) hx hb dX12_findRules_123 (by decide) (fun c11872 => ?_) (fun c11872 => ?_)
                  · have fc11872 := z_le (rfl : ((iv 12 23)).toInt = _) (rfl : (x11870_2).toInt = _) c11872
                    have hP9 : va_P (dC, dI) classes (WM h g ca (u2 iv 12 41 w11870_i_12_41) lv (u2 (u2 fa 12 39 w11395_a_12_39) 12 40 w11870_a_12_40) la) H := hP
                    have hD9 : va_D A (WM h g ca (u2 iv 12 41 w11870_i_12_41) lv (u2 (u2 fa 12 39 w11395_a_12_39) 12 40 w11870_a_12_40) la) := hD
                    exact W.vret hx hb hr (fun t ht9 hW => ⟨⟨((u2 iv 12 41 w11870_i_12_41), lv, (u2 (u2 fa 12 39 w11395_a_12_39) 12 40 w11870_a_12_40), la), rfl, ⟨w11395_a_12_39, w11870_a_12_40, w11870_i_12_41, hw11395_a_12_39, hw11870_a_12_40, (show inb (0, 8) w11870_i_12_41 from ⟨by omega, by omega⟩), (show ∀ j : Nat, (j : Int) < (w11870_i_12_41 : Int32).toInt → (w11870_a_12_40 j).toInt < ((iv 12 23) : Int32).toInt from hq11871_0), (show (w11870_i_12_41 : Int32).toInt ≤ ((iv 12 23) : Int32).toInt from by omega), (show OnR ((iv 12 23) : Int32).toInt (fun r => (w11395_a_12_39 r).toInt = 1) (fa 12 24) (St (fa 12 25) (mX (fa 12 26) 3) (fa 12 28)) (a).toInt from on9), (show OrK ((iv 12 23) : Int32).toInt (fun r => (w11395_a_12_39 r).toInt = 1) (fa 12 24) w11870_a_12_40 (w11870_i_12_41 : Int32).toInt from (by have hq9 := hq11871_1; have he9 : (x11870_2 : Int32).toInt = (iv 12 23).toInt := (by omega); rw [he9] at hq9; exact hq9)), rfl⟩, by rw [ht9]; exact hP9, hD9⟩, hS.F ht9⟩) hS.2.2 dX12_findRules_209
                  · have fc11872 := z_nle (rfl : ((iv 12 23)).toInt = _) (rfl : (x11870_2).toInt = _) c11872
                    refine lv_aload_n hx hb dX12_findRules_126 rfl (lv_at hl 1 rfl) ?_
                    refine gM_12_39 hx hb ht hown hK hP m_1178 dX12_findRules_127 ?_
                    refine lv_iload_n hx hb dX12_findRules_130 rfl (lv_at hl 0 rfl) ?_
                    refine lM_12_39 hx hb hK hP (f := w11395_a_12_39) rfl (vp_in_iff.mpr ⟨by omega, by omega⟩) dX12_findRules_131 ?_
                    refine lv_topi (fun v11873 ev11873 => ?_)
                    have tv11873 : 0 ≤ v11873.toInt ∧ v11873.toInt ≤ 1 := by rw [ev11873]; exact hw11395_a_12_39 _
                    refine lv_if_eq (tgt := 203) hx hb dX12_findRules_132 (by decide) (fun c11874 => ?_) (fun c11874 => ?_)
                    · have fc11874 := z_eq (rfl : (v11873).toInt = _) (by decide : (0 : Int32).toInt = 0) c11874
                      obtain ⟨v11875, ev11875⟩ : ∃ y : Int32, y = x11870_2 + 1 := ⟨_, rfl⟩
                      have tv11875 := z_add ev11875 rfl (by decide : (1 : Int32).toInt = 1) (by omega) (by omega)
                      refine lv_iinc (v := v11875) (lv' := [(2, .int v11875), (0, .ref h), (1, .int a)]) hx hb dX12_findRules_203 hl (k := 0) rfl (by rw [ev11875]; rfl) (by decide) rfl (fun ls hl => ?_)
                      refine lv_goto (tgt := 118) hx hb dX12_findRules_206 (by decide) ?_
                      exact ih11871 v11875 w11870_i_12_41 w11870_a_12_40 ⟨by omega, by omega⟩ ⟨by omega, by omega⟩ hw11870_a_12_40 (show ∀ j : Nat, (j : Int) < (w11870_i_12_41 : Int32).toInt → (w11870_a_12_40 j).toInt < ((iv 12 23) : Int32).toInt from hq11871_0) (show OrK (v11875 : Int32).toInt (fun r => (w11395_a_12_39 r).toInt = 1) (fa 12 24) w11870_a_12_40 (w11870_i_12_41 : Int32).toInt from (by have ho9 := congrArg Int32.toInt (show v11873 = w11395_a_12_39 ((x11870_2 : Int32).toInt).toNat from ev11873); exact OrK_n (k := (x11870_2 : Int32).toInt) (by omega) (by omega) (show ¬ (w11395_a_12_39 ((x11870_2 : Int32).toInt).toNat).toInt = 1 from by omega) hq11871_1)) (show (w11870_i_12_41 : Int32).toInt ≤ (v11875 : Int32).toInt from by omega) (show 0 ≤ (w11870_i_12_41 : Int32).toInt from by omega) (show (v11875 : Int32).toInt ≤ ((iv 12 23) : Int32).toInt from by omega) (by omega) _ _ ls hP hD hS (lv_sub hl [0, 1, 2] rfl)
                    · have fc11874 := z_ne (rfl : (v11873).toInt = _) (by decide : (0 : Int32).toInt = 0) c11874
                      refine lv_aload_n hx hb dX12_findRules_135 rfl (lv_at hl 1 rfl) ?_
                      refine gM_12_41 hx hb ht hown hK hP m_1180 (v := w11870_i_12_41) rfl dX12_findRules_136 ?_
                      refine lv_istore_n (lv' := [(3, .int w11870_i_12_41), (2, .int x11870_2), (0, .ref h), (1, .int a)]) hx hb dX12_findRules_139 rfl hl (by decide) rfl (fun ls hl => ?_)
                      have lp11911 : ∀ (nn11911 : Nat) (x11910_3 : Int32) (w11910_a_12_40 : Nat → Int32), 0 ≤ x11910_3.toInt ∧ x11910_3.toInt ≤ 8 → (∀ j, inb (bA 12 40 j) (w11910_a_12_40 j)) → (∀ j : Nat, (j : Int) ≤ (w11870_i_12_41 : Int32).toInt → (j : Int) ≠ (x11910_3 : Int32).toInt → (w11910_a_12_40 j).toInt < ((iv 12 23) : Int32).toInt) → (∃ g : Nat → Int32, OrK (x11870_2 : Int32).toInt (fun r => (w11395_a_12_39 r).toInt = 1) (fa 12 24) g (w11870_i_12_41 : Int32).toInt ∧ Shf (fa 12 24) g w11910_a_12_40 ((fa 12 24) ((x11870_2 : Int32).toInt).toNat).toInt (x11910_3 : Int32).toInt (w11870_i_12_41 : Int32).toInt) → (x11910_3 : Int32).toInt ≤ (w11870_i_12_41 : Int32).toInt → 0 ≤ (x11910_3 : Int32).toInt → x11910_3.toInt - 0 < (nn11911 : Int) → ∀ (H : Heap) (locs : List Loc), ∀ (ls : Array Slot), va_P (dC, dI) classes (WM h g ca (u2 iv 12 41 w11870_i_12_41) lv (u2 (u2 fa 12 39 w11395_a_12_39) 12 40 w11910_a_12_40) la) H → va_D A (WM h g ca (u2 iv 12 41 w11870_i_12_41) lv (u2 (u2 fa 12 39 w11395_a_12_39) 12 40 w11910_a_12_40) la) → va_S A s.heap H locs → lv_has ls 4 [(3, .int x11910_3), (2, .int x11870_2), (0, .ref h), (1, .int a)] → W p l e ({ frames := 0, cells := 0, slots := 0, locals := 0 } : Room) s m ([.ref h, .int a] : List Value).toArray below meth c H locs 0 0 (MQ below (va_Qv (fun (u : SS) => ∃ (na_12_39 : Nat → Int32) (na_12_40 : Nat → Int32) (ni_12_41 : Int32), (∀ j, inb (bA 12 39 j) (na_12_39 j)) ∧ (∀ j, inb (bA 12 40 j) (na_12_40 j)) ∧ inb (bI 12 41) ni_12_41 ∧ (∀ j : Nat, (j : Int) < (ni_12_41).toInt → (na_12_40 j).toInt < (iv 12 23).toInt) ∧ ((ni_12_41).toInt ≤ (iv 12 23).toInt) ∧ (OnR (iv 12 23).toInt (fun r => (na_12_39 r).toInt = 1) (fa 12 24) (St (fa 12 25) (mX (fa 12 26) 3) (fa 12 28)) a.toInt) ∧ (OrK (iv 12 23).toInt (fun r => (na_12_39 r).toInt = 1) (fa 12 24) na_12_40 (ni_12_41).toInt) ∧ u = ((u2 iv 12 41 ni_12_41), lv, (u2 (u2 fa 12 39 na_12_39) 12 40 na_12_40), la)) (bM (dC, dI) h g ca A) A) ([.ref h, .int a] : List Value).toArray s 0 0 A) (F0 m 140 ls []) := by
                        intro nn11911
                        induction nn11911 with
                        | zero => intro x11910_3 w11910_a_12_40 hx11910_3 hw11910_a_12_40 hq11911_0 hq11911_1 hq11911_2 hq11911_3 hm11911; exfalso; omega
                        | succ nn11911 ih11911 =>
                          intro x11910_3 w11910_a_12_40 hx11910_3 hw11910_a_12_40 hq11911_0 hq11911_1 hq11911_2 hq11911_3 hm11911 H locs ls hP hD hS hl
                          refine lv_iload_n hx hb dX12_findRules_140 rfl (lv_at hl 0 rfl) ?_
                          refine lv_if_le (tgt := 186) hx hb dX12_findRules_141 (by decide) (fun c11912 => ?_) (fun c11912 => ?_)
                          · have fc11912 := z_le (rfl : (x11910_3).toInt = _) (by decide : (0 : Int32).toInt = 0) c11912
                            refine lv_aload_n hx hb dX12_findRules_186 rfl (lv_at hl 2 rfl) ?_
                            refine gM_12_40 hx hb ht hown hK hP m_1179 dX12_findRules_187 ?_
                            refine lv_iload_n hx hb dX12_findRules_190 rfl (lv_at hl 0 rfl) ?_
                            refine lv_iload_n hx hb dX12_findRules_191 rfl (lv_at hl 1 rfl) ?_
                            refine tM_12_40 hx hb hK hP hD hS (f0 := w11910_a_12_40) rfl (i := x11910_3) (x := x11870_2) (vp_in_iff.mpr ⟨by omega, by omega⟩) dX12_findRules_192 (fun f11913 ef11913 H locs hP hD hS => ?_)
                            have hf11913 : ∀ j, inb (bA 12 40 j) (f11913 j) := by rw [ef11913]; exact upd_b (b := bA 12 40) hw11910_a_12_40 (show inb (0, 7) x11870_2 from ⟨by omega, by omega⟩)
                            have hP : va_P (dC, dI) classes (WM h g ca (u2 iv 12 41 w11870_i_12_41) lv (u2 (u2 fa 12 39 w11395_a_12_39) 12 40 f11913) la) H := hP
                            have hD : va_D A (WM h g ca (u2 iv 12 41 w11870_i_12_41) lv (u2 (u2 fa 12 39 w11395_a_12_39) 12 40 f11913) la) := hD
                            refine lv_aload_n hx hb dX12_findRules_193 rfl (lv_at hl 2 rfl) ?_
                            refine lv_dup hx hb dX12_findRules_194 rfl ?_
                            refine gM_12_41 hx hb ht hown hK hP m_1180 (v := w11870_i_12_41) rfl dX12_findRules_195 ?_
                            refine lv_iconst (v := 1) hx hb dX12_findRules_198 (by decide) ?_
                            refine lv_iadd hx hb dX12_findRules_199 ?_
                            refine lv_topi (fun v11914 ev11914 => ?_)
                            have tv11914 := z_add ev11914 (rfl : (w11870_i_12_41).toInt = _) (by decide : (1 : Int32).toInt = 1) (by omega) (by omega)
                            have : 0 ≤ (v11914 : Int32).toInt ∧ (v11914 : Int32).toInt ≤ 8 := ⟨by omega, by omega⟩
                            refine pM_12_41 (v := v11914) hx hb ht hown hK hP hD hS m_1180 dX12_findRules_200 (fun H locs hP hD hS => ?_)
                            have hP : va_P (dC, dI) classes (WM h g ca (u2 iv 12 41 v11914) lv (u2 (u2 fa 12 39 w11395_a_12_39) 12 40 f11913) la) H := hP
                            have hD : va_D A (WM h g ca (u2 iv 12 41 v11914) lv (u2 (u2 fa 12 39 w11395_a_12_39) 12 40 f11913) la) := hD
                            obtain ⟨v11915, ev11915⟩ : ∃ y : Int32, y = x11870_2 + 1 := ⟨_, rfl⟩
                            have tv11915 := z_add ev11915 rfl (by decide : (1 : Int32).toInt = 1) (by omega) (by omega)
                            refine lv_iinc (v := v11915) (lv' := [(2, .int v11915), (3, .int x11910_3), (0, .ref h), (1, .int a)]) hx hb dX12_findRules_203 hl (k := 1) rfl (by rw [ev11915]; rfl) (by decide) rfl (fun ls hl => ?_)
                            refine lv_goto (tgt := 118) hx hb dX12_findRules_206 (by decide) ?_
                            exact ih11871 v11915 v11914 f11913 ⟨by omega, by omega⟩ ⟨by omega, by omega⟩ hf11913 (show ∀ j : Nat, (j : Int) < (v11914 : Int32).toInt → (f11913 j).toInt < ((iv 12 23) : Int32).toInt from (fun j h => by
                                  rw [ef11913]
                                  by_cases hj : j = (x11910_3 : Int32).toNatClampNeg
                                  · rw [hj, upd_eq]; omega
                                  · rw [upd_ne hj]; have hj2 : j ≠ (x11910_3 : Int32).toInt.toNat := hj; exact hq11911_0 j (by omega) (by omega))) (show OrK (v11915 : Int32).toInt (fun r => (w11395_a_12_39 r).toInt = 1) (fa 12 24) f11913 (v11914 : Int32).toInt from (by
                                  have ho9 := congrArg Int32.toInt (show v11873 = w11395_a_12_39 ((x11870_2 : Int32).toInt).toNat from ev11873)
                                  obtain ⟨g9, ga, gb⟩ := hq11911_1
                                  exact OrK_y (k := (x11870_2 : Int32).toInt) (i := (x11910_3 : Int32).toInt) (by omega) (by omega) (by omega) (by omega) (by omega) (show (w11395_a_12_39 ((x11870_2 : Int32).toInt).toNat).toInt = 1 from by omega) (fun t ht => by rw [ef11913, upd_ne (show t ≠ (x11910_3 : Int32).toNatClampNeg from ht)]) (by rw [ef11913, show ((x11910_3 : Int32).toInt).toNat = (x11910_3 : Int32).toNatClampNeg from rfl, upd_eq]) (Or.inl (by omega)) gb ga)) (show (v11914 : Int32).toInt ≤ (v11915 : Int32).toInt from by omega) (show 0 ≤ (v11914 : Int32).toInt from by omega) (show (v11915 : Int32).toInt ≤ ((iv 12 23) : Int32).toInt from by omega) (by omega) _ _ ls hP hD hS (lv_sub hl [0, 2, 3] rfl)
                          · have fc11912 := z_nle (rfl : (x11910_3).toInt = _) (by decide : (0 : Int32).toInt = 0) c11912
                            refine lv_aload_n hx hb dX12_findRules_144 rfl (lv_at hl 2 rfl) ?_
                            refine gM_12_24 hx hb ht hown hK hP m_1163 dX12_findRules_145 ?_
                            refine lv_aload_n hx hb dX12_findRules_148 rfl (lv_at hl 2 rfl) ?_
                            refine gM_12_40 hx hb ht hown hK hP m_1179 dX12_findRules_149 ?_
                            refine lv_iload_n hx hb dX12_findRules_152 rfl (lv_at hl 0 rfl) ?_
                            refine lv_iconst (v := 1) hx hb dX12_findRules_153 (by decide) ?_
                            refine lv_isub hx hb dX12_findRules_154 ?_
                            refine lv_topi (fun v11916 ev11916 => ?_)
                            have tv11916 := z_sub ev11916 (rfl : (x11910_3).toInt = _) (by decide : (1 : Int32).toInt = 1) (by omega) (by omega)
                            refine lM_12_40 hx hb hK hP (f := w11910_a_12_40) rfl (vp_in_iff.mpr ⟨by omega, by omega⟩) dX12_findRules_155 ?_
                            refine lv_topi (fun v11917 ev11917 => ?_)
                            have tv11917 : 0 ≤ v11917.toInt ∧ v11917.toInt ≤ 7 := by rw [ev11917]; exact hw11910_a_12_40 _
                            refine lM_12_24 hx hb hK hP (f := (fa 12 24)) rfl (vp_in_iff.mpr ⟨by omega, by omega⟩) dX12_findRules_156 ?_
                            refine lv_topi (fun v11918 ev11918 => ?_)
                            refine lv_aload_n hx hb dX12_findRules_157 rfl (lv_at hl 2 rfl) ?_
                            refine gM_12_24 hx hb ht hown hK hP m_1163 dX12_findRules_158 ?_
                            refine lv_iload_n hx hb dX12_findRules_161 rfl (lv_at hl 1 rfl) ?_
                            refine lM_12_24 hx hb hK hP (f := (fa 12 24)) rfl (vp_in_iff.mpr ⟨by omega, by omega⟩) dX12_findRules_162 ?_
                            refine lv_topi (fun v11919 ev11919 => ?_)
                            refine lv_icmp_le (tgt := 186) hx hb dX12_findRules_163 (by decide) (fun c11920 => ?_) (fun c11920 => ?_)
                            · have fc11920 := z_le (rfl : (v11918).toInt = _) (rfl : (v11919).toInt = _) c11920
                              refine lv_aload_n hx hb dX12_findRules_186 rfl (lv_at hl 2 rfl) ?_
                              refine gM_12_40 hx hb ht hown hK hP m_1179 dX12_findRules_187 ?_
                              refine lv_iload_n hx hb dX12_findRules_190 rfl (lv_at hl 0 rfl) ?_
                              refine lv_iload_n hx hb dX12_findRules_191 rfl (lv_at hl 1 rfl) ?_
                              have : 0 ≤ (x11910_3 : Int32).toInt ∧ (x11910_3 : Int32).toInt ≤ 7 := ⟨by omega, by omega⟩
                              refine tM_12_40 hx hb hK hP hD hS (f0 := w11910_a_12_40) rfl (i := x11910_3) (x := x11870_2) (vp_in_iff.mpr ⟨by omega, by omega⟩) dX12_findRules_192 (fun f11921 ef11921 H locs hP hD hS => ?_)
                              have hf11921 : ∀ j, inb (bA 12 40 j) (f11921 j) := by rw [ef11921]; exact upd_b (b := bA 12 40) hw11910_a_12_40 (show inb (0, 7) x11870_2 from ⟨by omega, by omega⟩)
                              have hP : va_P (dC, dI) classes (WM h g ca (u2 iv 12 41 w11870_i_12_41) lv (u2 (u2 fa 12 39 w11395_a_12_39) 12 40 f11921) la) H := hP
                              have hD : va_D A (WM h g ca (u2 iv 12 41 w11870_i_12_41) lv (u2 (u2 fa 12 39 w11395_a_12_39) 12 40 f11921) la) := hD
                              refine lv_aload_n hx hb dX12_findRules_193 rfl (lv_at hl 2 rfl) ?_
                              refine lv_dup hx hb dX12_findRules_194 rfl ?_
                              refine gM_12_41 hx hb ht hown hK hP m_1180 (v := w11870_i_12_41) rfl dX12_findRules_195 ?_
                              refine lv_iconst (v := 1) hx hb dX12_findRules_198 (by decide) ?_
                              refine lv_iadd hx hb dX12_findRules_199 ?_
                              refine lv_topi (fun v11922 ev11922 => ?_)
                              have tv11922 := z_add ev11922 (rfl : (w11870_i_12_41).toInt = _) (by decide : (1 : Int32).toInt = 1) (by omega) (by omega)
                              have : 0 ≤ (v11922 : Int32).toInt ∧ (v11922 : Int32).toInt ≤ 8 := ⟨by omega, by omega⟩
                              refine pM_12_41 (v := v11922) hx hb ht hown hK hP hD hS m_1180 dX12_findRules_200 (fun H locs hP hD hS => ?_)
                              have hP : va_P (dC, dI) classes (WM h g ca (u2 iv 12 41 v11922) lv (u2 (u2 fa 12 39 w11395_a_12_39) 12 40 f11921) la) H := hP
                              have hD : va_D A (WM h g ca (u2 iv 12 41 v11922) lv (u2 (u2 fa 12 39 w11395_a_12_39) 12 40 f11921) la) := hD
                              obtain ⟨v11923, ev11923⟩ : ∃ y : Int32, y = x11870_2 + 1 := ⟨_, rfl⟩
                              have tv11923 := z_add ev11923 rfl (by decide : (1 : Int32).toInt = 1) (by omega) (by omega)
                              refine lv_iinc (v := v11923) (lv' := [(2, .int v11923), (3, .int x11910_3), (0, .ref h), (1, .int a)]) hx hb dX12_findRules_203 hl (k := 1) rfl (by rw [ev11923]; rfl) (by decide) rfl (fun ls hl => ?_)
                              refine lv_goto (tgt := 118) hx hb dX12_findRules_206 (by decide) ?_
                              exact ih11871 v11923 v11922 f11921 ⟨by omega, by omega⟩ ⟨by omega, by omega⟩ hf11921 (show ∀ j : Nat, (j : Int) < (v11922 : Int32).toInt → (f11921 j).toInt < ((iv 12 23) : Int32).toInt from (fun j h => by
                                    rw [ef11921]
                                    by_cases hj : j = (x11910_3 : Int32).toNatClampNeg
                                    · rw [hj, upd_eq]; omega
                                    · rw [upd_ne hj]; have hj2 : j ≠ (x11910_3 : Int32).toInt.toNat := hj; exact hq11911_0 j (by omega) (by omega))) (show OrK (v11923 : Int32).toInt (fun r => (w11395_a_12_39 r).toInt = 1) (fa 12 24) f11921 (v11922 : Int32).toInt from (by
                                    have ho9 := congrArg Int32.toInt (show v11873 = w11395_a_12_39 ((x11870_2 : Int32).toInt).toNat from ev11873)
                                    obtain ⟨g9, ga, gb⟩ := hq11911_1
                                    have he9 : (v11916 : Int32).toNatClampNeg = ((x11910_3 : Int32).toInt - 1).toNat := by show (v11916 : Int32).toInt.toNat = _; omega
                                    have hp9 : v11917 = w11910_a_12_40 ((x11910_3 : Int32).toInt - 1).toNat := by rw [← he9]; exact ev11917
                                    have hd1 := congrArg Int32.toInt (show v11918 = fa 12 24 ((v11917 : Int32).toInt).toNat from ev11918)
                                    have hd2 := congrArg Int32.toInt (show v11919 = fa 12 24 ((x11870_2 : Int32).toInt).toNat from ev11919)
                                    rw [hp9] at hd1
                                    exact OrK_y (k := (x11870_2 : Int32).toInt) (i := (x11910_3 : Int32).toInt) (by omega) (by omega) (by omega) (by omega) (by omega) (show (w11395_a_12_39 ((x11870_2 : Int32).toInt).toNat).toInt = 1 from by omega) (fun t ht => by rw [ef11921, upd_ne (show t ≠ (x11910_3 : Int32).toNatClampNeg from ht)]) (by rw [ef11921, show ((x11910_3 : Int32).toInt).toNat = (x11910_3 : Int32).toNatClampNeg from rfl, upd_eq]) (Or.inr (by omega)) gb ga)) (show (v11922 : Int32).toInt ≤ (v11923 : Int32).toInt from by omega) (show 0 ≤ (v11922 : Int32).toInt from by omega) (show (v11923 : Int32).toInt ≤ ((iv 12 23) : Int32).toInt from by omega) (by omega) _ _ ls hP hD hS (lv_sub hl [0, 2, 3] rfl)
                            · have fc11920 := z_nle (rfl : (v11918).toInt = _) (rfl : (v11919).toInt = _) c11920
                              refine lv_aload_n hx hb dX12_findRules_166 rfl (lv_at hl 2 rfl) ?_
                              refine gM_12_40 hx hb ht hown hK hP m_1179 dX12_findRules_167 ?_
                              refine lv_iload_n hx hb dX12_findRules_170 rfl (lv_at hl 0 rfl) ?_
                              refine lv_aload_n hx hb dX12_findRules_171 rfl (lv_at hl 2 rfl) ?_
                              refine gM_12_40 hx hb ht hown hK hP m_1179 dX12_findRules_172 ?_
                              refine lv_iload_n hx hb dX12_findRules_175 rfl (lv_at hl 0 rfl) ?_
                              refine lv_iconst (v := 1) hx hb dX12_findRules_176 (by decide) ?_
                              refine lv_isub hx hb dX12_findRules_177 ?_
                              refine lv_topi (fun v11924 ev11924 => ?_)
                              obtain rfl : v11916 = v11924 := ev11916.trans ev11924.symm
                              refine lM_12_40 hx hb hK hP (f := w11910_a_12_40) rfl (vp_in_iff.mpr ⟨by omega, by omega⟩) dX12_findRules_178 ?_
                              refine lv_topi (fun v11925 ev11925 => ?_)
                              obtain rfl : v11917 = v11925 := ev11917.trans ev11925.symm
                              have : 0 ≤ (x11910_3 : Int32).toInt ∧ (x11910_3 : Int32).toInt ≤ 7 := ⟨by omega, by omega⟩
                              refine tM_12_40 hx hb hK hP hD hS (f0 := w11910_a_12_40) rfl (i := x11910_3) (x := v11917) (vp_in_iff.mpr ⟨by omega, by omega⟩) dX12_findRules_179 (fun f11926 ef11926 H locs hP hD hS => ?_)
                              have hf11926 : ∀ j, inb (bA 12 40 j) (f11926 j) := by rw [ef11926]; exact upd_b (b := bA 12 40) hw11910_a_12_40 (show inb (0, 7) v11917 from ⟨by omega, by omega⟩)
                              have hP : va_P (dC, dI) classes (WM h g ca (u2 iv 12 41 w11870_i_12_41) lv (u2 (u2 fa 12 39 w11395_a_12_39) 12 40 f11926) la) H := hP
                              have hD : va_D A (WM h g ca (u2 iv 12 41 w11870_i_12_41) lv (u2 (u2 fa 12 39 w11395_a_12_39) 12 40 f11926) la) := hD
                              obtain ⟨v11927, ev11927⟩ : ∃ y : Int32, y = x11910_3 + (-1) := ⟨_, rfl⟩
                              have tv11927 := z_add ev11927 rfl (by decide : ((-1) : Int32).toInt = (-1)) (by omega) (by omega)
                              refine lv_iinc (v := v11927) (lv' := [(3, .int v11927), (2, .int x11870_2), (0, .ref h), (1, .int a)]) hx hb dX12_findRules_180 hl (k := 0) rfl (by rw [ev11927]; rfl) (by decide) rfl (fun ls hl => ?_)
                              refine lv_goto (tgt := 140) hx hb dX12_findRules_183 (by decide) ?_
                              exact ih11911 v11927 f11926 ⟨by omega, by omega⟩ hf11926 (show ∀ j : Nat, (j : Int) ≤ (w11870_i_12_41 : Int32).toInt → (j : Int) ≠ (v11927 : Int32).toInt → (f11926 j).toInt < ((iv 12 23) : Int32).toInt from (fun j h1 h2 => by
                                    rw [ef11926]
                                    by_cases hj : j = (x11910_3 : Int32).toNatClampNeg
                                    · rw [hj, upd_eq, ev11917]; exact hq11911_0 _ (by show (((v11916 : Int32).toInt.toNat : Nat) : Int) ≤ _; omega) (by show (((v11916 : Int32).toInt.toNat : Nat) : Int) ≠ _; omega)
                                    · rw [upd_ne hj]; have hj2 : j ≠ (x11910_3 : Int32).toInt.toNat := hj; exact hq11911_0 j h1 (by omega))) (show ∃ g : Nat → Int32, OrK (x11870_2 : Int32).toInt (fun r => (w11395_a_12_39 r).toInt = 1) (fa 12 24) g (w11870_i_12_41 : Int32).toInt ∧ Shf (fa 12 24) g f11926 ((fa 12 24) ((x11870_2 : Int32).toInt).toNat).toInt (v11927 : Int32).toInt (w11870_i_12_41 : Int32).toInt from (by
                                    obtain ⟨g9, ga, gb⟩ := hq11911_1
                                    have he9 : (v11916 : Int32).toNatClampNeg = ((v11927 : Int32).toInt).toNat := by show (v11916 : Int32).toInt.toNat = _; omega
                                    have hp9 : v11917 = w11910_a_12_40 ((v11927 : Int32).toInt).toNat := by rw [← he9]; exact ev11917
                                    have hd1 := congrArg Int32.toInt (show v11918 = fa 12 24 ((v11917 : Int32).toInt).toNat from ev11918)
                                    have hd2 := congrArg Int32.toInt (show v11919 = fa 12 24 ((x11870_2 : Int32).toInt).toNat from ev11919)
                                    rw [hp9] at hd1
                                    exact ⟨g9, ga, Shf_s (i := (x11910_3 : Int32).toInt) (by omega) (by omega) (by omega) (by omega) (fun t ht => by rw [ef11926, upd_ne (show t ≠ (x11910_3 : Int32).toNatClampNeg from ht)]) (by rw [ef11926, show ((x11910_3 : Int32).toInt).toNat = (x11910_3 : Int32).toNatClampNeg from rfl, upd_eq]; exact hp9) gb⟩)) (show (v11927 : Int32).toInt ≤ (w11870_i_12_41 : Int32).toInt from by omega) (show 0 ≤ (v11927 : Int32).toInt from by omega) (by omega) _ _ ls hP hD hS (lv_sub hl [0, 1, 2, 3] rfl)
                      exact lp11911 9 w11870_i_12_41 w11870_a_12_40 ⟨by omega, by omega⟩ hw11870_a_12_40 (show ∀ j : Nat, (j : Int) ≤ (w11870_i_12_41 : Int32).toInt → (j : Int) ≠ (w11870_i_12_41 : Int32).toInt → (w11870_a_12_40 j).toInt < ((iv 12 23) : Int32).toInt from (fun j h1 h2 => hq11871_0 j (by omega))) (show ∃ g : Nat → Int32, OrK (x11870_2 : Int32).toInt (fun r => (w11395_a_12_39 r).toInt = 1) (fa 12 24) g (w11870_i_12_41 : Int32).toInt ∧ Shf (fa 12 24) g w11870_a_12_40 ((fa 12 24) ((x11870_2 : Int32).toInt).toNat).toInt (w11870_i_12_41 : Int32).toInt (w11870_i_12_41 : Int32).toInt from ⟨_, hq11871_1, Shf_0⟩) (show (w11870_i_12_41 : Int32).toInt ≤ (w11870_i_12_41 : Int32).toInt from by omega) (show 0 ≤ (w11870_i_12_41 : Int32).toInt from by omega) (by first | decide | omega) _ _ ls hP hD hS (lv_sub hl [0, 1, 2, 3] rfl)
              have : (0 : Int32).toInt = 0 := (by decide)
              exact lp11871 9 0 0 (fa 12 40) ⟨by decide, by decide⟩ ⟨by decide, by decide⟩ (hI.2 12 40) (show ∀ j : Nat, (j : Int) < (0 : Int32).toInt → ((fa 12 40) j).toInt < ((iv 12 23) : Int32).toInt from fun j h => by omega) (show OrK (0 : Int32).toInt (fun r => (w11395_a_12_39 r).toInt = 1) (fa 12 24) (fa 12 40) (0 : Int32).toInt from (by have hz : (0 : Int32).toInt = 0 := (by decide); rw [hz]; exact OrK_0)) (show (0 : Int32).toInt ≤ (0 : Int32).toInt from by omega) (show 0 ≤ (0 : Int32).toInt from by omega) (show (0 : Int32).toInt ≤ ((iv 12 23) : Int32).toInt from by omega) (by first | decide | omega) _ _ ls hP hD hS (lv_sub hl [0, 1, 2] rfl)
            · have fc11397 := z_nlt (rfl : (x11395_2).toInt = _) (by decide : (0 : Int32).toInt = 0) c11397
              refine lv_bipush (v := 12) hx hb dX12_findRules_48 (by decide) ?_
              refine lv_iload_n hx hb dX12_findRules_50 rfl (lv_at hl 0 rfl) ?_
              refine lv_imul hx hb dX12_findRules_51 ?_
              refine lv_topi (fun v11928 ev11928 => ?_)
              have tv11928 := z_mul ev11928 (by decide : (12 : Int32).toInt = 12) (rfl : (x11395_2).toInt = _) (by omega) (by omega)
              have hb9 : 0 ≤ (fa 12 25 ((x11395_2 : Int32).toInt).toNat).toInt ∧ (fa 12 25 ((x11395_2 : Int32).toInt).toNat).toInt ≤ 12 := hI.2 12 25 _
              refine lv_istore_n (lv' := [(3, .int v11928), (2, .int x11395_2), (0, .ref h), (1, .int a)]) hx hb dX12_findRules_52 rfl hl (by decide) rfl (fun ls hl => ?_)
              have lp11975 : ∀ (nn11975 : Nat) (x11974_3 : Int32) (w11974_a_12_39 : Nat → Int32), 0 ≤ x11974_3.toInt ∧ x11974_3.toInt ≤ 96 → (∀ j, inb (bA 12 39 j) (w11974_a_12_39 j)) → (∃ g : Nat → Int32, Pa ((iv 12 23) : Int32).toInt (x11395_2 : Int32).toInt g (fa 12 24) (St (fa 12 25) (mX (fa 12 26) 3) (fa 12 28)) (a).toInt ∧ Pb ((iv 12 23) : Int32).toInt (x11395_2 : Int32).toInt g w11974_a_12_39 (mX (fa 12 26) 3) (fa 12 28) (x11974_3 : Int32).toInt) → 12 * (x11395_2 : Int32).toInt ≤ (x11974_3 : Int32).toInt → (x11974_3 : Int32).toInt ≤ 12 * (x11395_2 : Int32).toInt + ((fa 12 25) ((x11395_2 : Int32).toInt).toNat).toInt → 96 - x11974_3.toInt < (nn11975 : Int) → ∀ (H : Heap) (locs : List Loc), ∀ (ls : Array Slot), va_P (dC, dI) classes (WM h g ca iv lv (u2 fa 12 39 w11974_a_12_39) la) H → va_D A (WM h g ca iv lv (u2 fa 12 39 w11974_a_12_39) la) → va_S A s.heap H locs → lv_has ls 4 [(3, .int x11974_3), (2, .int x11395_2), (0, .ref h), (1, .int a)] → W p l e ({ frames := 0, cells := 0, slots := 0, locals := 0 } : Room) s m ([.ref h, .int a] : List Value).toArray below meth c H locs 0 0 (MQ below (va_Qv (fun (u : SS) => ∃ (na_12_39 : Nat → Int32) (na_12_40 : Nat → Int32) (ni_12_41 : Int32), (∀ j, inb (bA 12 39 j) (na_12_39 j)) ∧ (∀ j, inb (bA 12 40 j) (na_12_40 j)) ∧ inb (bI 12 41) ni_12_41 ∧ (∀ j : Nat, (j : Int) < (ni_12_41).toInt → (na_12_40 j).toInt < (iv 12 23).toInt) ∧ ((ni_12_41).toInt ≤ (iv 12 23).toInt) ∧ (OnR (iv 12 23).toInt (fun r => (na_12_39 r).toInt = 1) (fa 12 24) (St (fa 12 25) (mX (fa 12 26) 3) (fa 12 28)) a.toInt) ∧ (OrK (iv 12 23).toInt (fun r => (na_12_39 r).toInt = 1) (fa 12 24) na_12_40 (ni_12_41).toInt) ∧ u = ((u2 iv 12 41 ni_12_41), lv, (u2 (u2 fa 12 39 na_12_39) 12 40 na_12_40), la)) (bM (dC, dI) h g ca A) A) ([.ref h, .int a] : List Value).toArray s 0 0 A) (F0 m 53 ls []) := by
                intro nn11975
                induction nn11975 with
                | zero => intro x11974_3 w11974_a_12_39 hx11974_3 hw11974_a_12_39 hq11975_0 hq11975_1 hq11975_2 hm11975; exfalso; omega
                | succ nn11975 ih11975 =>
                  intro x11974_3 w11974_a_12_39 hx11974_3 hw11974_a_12_39 hq11975_0 hq11975_1 hq11975_2 hm11975 H locs ls hP hD hS hl
                  refine lv_iload_n hx hb dX12_findRules_53 rfl (lv_at hl 0 rfl) ?_
                  refine lv_bipush (v := 12) hx hb dX12_findRules_54 (by decide) ?_
                  refine lv_iload_n hx hb dX12_findRules_56 rfl (lv_at hl 1 rfl) ?_
                  refine lv_imul hx hb dX12_findRules_57 ?_
                  refine lv_topi (fun v11976 ev11976 => ?_)
                  obtain rfl : v11928 = v11976 := ev11928.trans ev11976.symm
                  refine lv_aload_n hx hb dX12_findRules_58 rfl (lv_at hl 2 rfl) ?_
                  refine gM_12_25 hx hb ht hown hK hP m_1164 dX12_findRules_59 ?_
                  refine lv_iload_n hx hb dX12_findRules_62 rfl (lv_at hl 1 rfl) ?_
                  refine lM_12_25 hx hb hK hP (f := (fa 12 25)) rfl (vp_in_iff.mpr ⟨by omega, by omega⟩) dX12_findRules_63 ?_
                  refine lv_topi (fun v11977 ev11977 => ?_)
                  have tv11977 : 0 ≤ v11977.toInt ∧ v11977.toInt ≤ 12 := by rw [ev11977]; exact hI.2 12 25 _
                  have hn9 := congrArg Int32.toInt (show v11977 = fa 12 25 ((x11395_2 : Int32).toInt).toNat from ev11977)
                  refine lv_iadd hx hb dX12_findRules_64 ?_
                  refine lv_topi (fun v11978 ev11978 => ?_)
                  have tv11978 := z_add ev11978 (rfl : (v11928).toInt = _) (rfl : (v11977).toInt = _) (by omega) (by omega)
                  refine lv_icmp_ge (tgt := 105) hx hb dX12_findRules_65 (by decide) (fun c11979 => ?_) (fun c11979 => ?_)
                  · have fc11979 := z_le (rfl : (v11978).toInt = _) (rfl : (x11974_3).toInt = _) c11979
                    obtain ⟨v11980, ev11980⟩ : ∃ y : Int32, y = x11395_2 + (-1) := ⟨_, rfl⟩
                    have tv11980 := z_add ev11980 rfl (by decide : ((-1) : Int32).toInt = (-1)) (by omega) (by omega)
                    refine lv_iinc (v := v11980) (lv' := [(2, .int v11980), (3, .int x11974_3), (0, .ref h), (1, .int a)]) hx hb dX12_findRules_105 hl (k := 1) rfl (by rw [ev11980]; rfl) (by decide) rfl (fun ls hl => ?_)
                    refine lv_goto (tgt := 44) hx hb dX12_findRules_108 (by decide) ?_
                    exact ih11396 v11980 w11974_a_12_39 ⟨by omega, by omega⟩ hw11974_a_12_39 (show Pa ((iv 12 23) : Int32).toInt (v11980 : Int32).toInt w11974_a_12_39 (fa 12 24) (St (fa 12 25) (mX (fa 12 26) 3) (fa 12 28)) (a).toInt from (by
                          obtain ⟨g9, ga, gb⟩ := hq11975_0
                          have hn9 := congrArg Int32.toInt (show v11977 = fa 12 25 ((x11395_2 : Int32).toInt).toNat from ev11977)
                          have hk9 : ((((x11395_2 : Int32).toInt).toNat : Nat) : Int) = (x11395_2 : Int32).toInt := Int.toNat_of_nonneg (by omega)
                          exact Pb_end (k := (x11395_2 : Int32).toInt) (c := (x11974_3 : Int32).toInt) (by omega) (by omega) (by omega) (fun j h1 h2 h3 => by have h5 := hJK ((x11395_2 : Int32).toInt).toNat j (by omega) (by omega) (by omega) h3; omega) (Or.inl (by omega)) ga gb)) (show (v11980 : Int32).toInt + 1 ≤ ((iv 12 23) : Int32).toInt from by omega) (show -1 ≤ (v11980 : Int32).toInt from by omega) (by omega) _ _ ls hP hD hS (lv_sub hl [0, 2, 3] rfl)
                  · have fc11979 := z_nle (rfl : (v11978).toInt = _) (rfl : (x11974_3).toInt = _) c11979
                    refine lv_aload_n hx hb dX12_findRules_68 rfl (lv_at hl 2 rfl) ?_
                    refine gM_12_39 hx hb ht hown hK hP m_1178 dX12_findRules_69 ?_
                    refine lv_iload_n hx hb dX12_findRules_72 rfl (lv_at hl 1 rfl) ?_
                    refine lM_12_39 hx hb hK hP (f := w11974_a_12_39) rfl (vp_in_iff.mpr ⟨by omega, by omega⟩) dX12_findRules_73 ?_
                    refine lv_topi (fun v11981 ev11981 => ?_)
                    have tv11981 : 0 ≤ v11981.toInt ∧ v11981.toInt ≤ 1 := by rw [ev11981]; exact hw11974_a_12_39 _
                    refine lv_if_eq (tgt := 105) hx hb dX12_findRules_74 (by decide) (fun c11982 => ?_) (fun c11982 => ?_)
                    · have fc11982 := z_eq (rfl : (v11981).toInt = _) (by decide : (0 : Int32).toInt = 0) c11982
                      obtain ⟨v11983, ev11983⟩ : ∃ y : Int32, y = x11395_2 + (-1) := ⟨_, rfl⟩
                      have tv11983 := z_add ev11983 rfl (by decide : ((-1) : Int32).toInt = (-1)) (by omega) (by omega)
                      refine lv_iinc (v := v11983) (lv' := [(2, .int v11983), (3, .int x11974_3), (0, .ref h), (1, .int a)]) hx hb dX12_findRules_105 hl (k := 1) rfl (by rw [ev11983]; rfl) (by decide) rfl (fun ls hl => ?_)
                      refine lv_goto (tgt := 44) hx hb dX12_findRules_108 (by decide) ?_
                      exact ih11396 v11983 w11974_a_12_39 ⟨by omega, by omega⟩ hw11974_a_12_39 (show Pa ((iv 12 23) : Int32).toInt (v11983 : Int32).toInt w11974_a_12_39 (fa 12 24) (St (fa 12 25) (mX (fa 12 26) 3) (fa 12 28)) (a).toInt from (by
                            obtain ⟨g9, ga, gb⟩ := hq11975_0
                            have hn9 := congrArg Int32.toInt (show v11977 = fa 12 25 ((x11395_2 : Int32).toInt).toNat from ev11977)
                            have hk9 : ((((x11395_2 : Int32).toInt).toNat : Nat) : Int) = (x11395_2 : Int32).toInt := Int.toNat_of_nonneg (by omega)
                            exact Pb_end (k := (x11395_2 : Int32).toInt) (c := (x11974_3 : Int32).toInt) (by omega) (by omega) (by omega) (fun j h1 h2 h3 => by have h5 := hJK ((x11395_2 : Int32).toInt).toNat j (by omega) (by omega) (by omega) h3; omega) (Or.inr (by have ho9 := congrArg Int32.toInt (show v11981 = w11974_a_12_39 ((x11395_2 : Int32).toInt).toNat from ev11981); omega)) ga gb)) (show (v11983 : Int32).toInt + 1 ≤ ((iv 12 23) : Int32).toInt from by omega) (show -1 ≤ (v11983 : Int32).toInt from by omega) (by omega) _ _ ls hP hD hS (lv_sub hl [0, 2, 3] rfl)
                    · have fc11982 := z_ne (rfl : (v11981).toInt = _) (by decide : (0 : Int32).toInt = 0) c11982
                      refine lv_aload_n hx hb dX12_findRules_77 rfl (lv_at hl 2 rfl) ?_
                      refine gM_12_26 hx hb ht hown hK hP m_1165 dX12_findRules_78 ?_
                      refine lv_iload_n hx hb dX12_findRules_81 rfl (lv_at hl 0 rfl) ?_
                      refine lM_12_26 hx hb hK hP (f := (fa 12 26)) rfl (vp_in_iff.mpr ⟨by omega, by omega⟩) dX12_findRules_82 ?_
                      refine lv_topi (fun v11984 ev11984 => ?_)
                      refine lv_iconst (v := 3) hx hb dX12_findRules_83 (by decide) ?_
                      refine lv_icmp_ne (tgt := 99) hx hb dX12_findRules_84 (by decide) (fun c11985 => ?_) (fun c11985 => ?_)
                      · have fc11985 := z_ne (rfl : (v11984).toInt = _) (by decide : (3 : Int32).toInt = 3) c11985
                        obtain ⟨v11986, ev11986⟩ : ∃ y : Int32, y = x11974_3 + 1 := ⟨_, rfl⟩
                        have tv11986 := z_add ev11986 rfl (by decide : (1 : Int32).toInt = 1) (by omega) (by omega)
                        refine lv_iinc (v := v11986) (lv' := [(3, .int v11986), (2, .int x11395_2), (0, .ref h), (1, .int a)]) hx hb dX12_findRules_99 hl (k := 0) rfl (by rw [ev11986]; rfl) (by decide) rfl (fun ls hl => ?_)
                        refine lv_goto (tgt := 53) hx hb dX12_findRules_102 (by decide) ?_
                        exact ih11975 v11986 w11974_a_12_39 ⟨by omega, by omega⟩ hw11974_a_12_39 (show ∃ g : Nat → Int32, Pa ((iv 12 23) : Int32).toInt (x11395_2 : Int32).toInt g (fa 12 24) (St (fa 12 25) (mX (fa 12 26) 3) (fa 12 28)) (a).toInt ∧ Pb ((iv 12 23) : Int32).toInt (x11395_2 : Int32).toInt g w11974_a_12_39 (mX (fa 12 26) 3) (fa 12 28) (v11986 : Int32).toInt from (by
                              obtain ⟨g9, ga, gb⟩ := hq11975_0
                              have hv9 := congrArg Int32.toInt (show v11984 = fa 12 26 ((x11974_3 : Int32).toInt).toNat from ev11984)
                              have ho9 := congrArg Int32.toInt (show v11981 = w11974_a_12_39 ((x11395_2 : Int32).toInt).toNat from ev11981)
                              exact ⟨g9, ga, Pb_n (j := ((x11974_3 : Int32).toInt).toNat) (c := (x11974_3 : Int32).toInt) (by omega) (by omega) (show ¬ (fa 12 26 ((x11974_3 : Int32).toInt).toNat).toInt = 3 from by omega) gb⟩)) (show 12 * (x11395_2 : Int32).toInt ≤ (v11986 : Int32).toInt from by omega) (show (v11986 : Int32).toInt ≤ 12 * (x11395_2 : Int32).toInt + ((fa 12 25) ((x11395_2 : Int32).toInt).toNat).toInt from by omega) (by omega) _ _ ls hP hD hS (lv_sub hl [0, 1, 2, 3] rfl)
                      · have fc11985 := z_eq (rfl : (v11984).toInt = _) (by decide : (3 : Int32).toInt = 3) c11985
                        refine lv_aload_n hx hb dX12_findRules_87 rfl (lv_at hl 2 rfl) ?_
                        refine gM_12_39 hx hb ht hown hK hP m_1178 dX12_findRules_88 ?_
                        refine lv_aload_n hx hb dX12_findRules_91 rfl (lv_at hl 2 rfl) ?_
                        refine gM_12_28 hx hb ht hown hK hP m_1167 dX12_findRules_92 ?_
                        refine lv_iload_n hx hb dX12_findRules_95 rfl (lv_at hl 0 rfl) ?_
                        refine lM_12_28 hx hb hK hP (f := (fa 12 28)) rfl (vp_in_iff.mpr ⟨by omega, by omega⟩) dX12_findRules_96 ?_
                        refine lv_topi (fun v11987 ev11987 => ?_)
                        refine lv_iconst (v := 0) hx hb dX12_findRules_97 (by decide) ?_
                        have gq := hJC x11395_2 x11974_3 (by omega) (by omega) (by omega) (by rw [← ev11977]; omega)
                        rw [← ev11984, ← ev11987] at gq
                        have gq2 := gq.1 (by omega)
                        refine tM_12_39 hx hb hK hP hD hS (f0 := w11974_a_12_39) rfl (i := v11987) (x := 0) (vp_in_iff.mpr ⟨by omega, by omega⟩) dX12_findRules_98 (fun f11988 ef11988 H locs hP hD hS => ?_)
                        have hf11988 : ∀ j, inb (bA 12 39 j) (f11988 j) := by rw [ef11988]; exact upd_b (b := bA 12 39) hw11974_a_12_39 (show inb (0, 1) (vp_nar .boolean 0) from ⟨by decide, by decide⟩)
                        have hP : va_P (dC, dI) classes (WM h g ca iv lv (u2 fa 12 39 f11988) la) H := hP
                        have hD : va_D A (WM h g ca iv lv (u2 fa 12 39 f11988) la) := hD
                        obtain ⟨v11989, ev11989⟩ : ∃ y : Int32, y = x11974_3 + 1 := ⟨_, rfl⟩
                        have tv11989 := z_add ev11989 rfl (by decide : (1 : Int32).toInt = 1) (by omega) (by omega)
                        refine lv_iinc (v := v11989) (lv' := [(3, .int v11989), (2, .int x11395_2), (0, .ref h), (1, .int a)]) hx hb dX12_findRules_99 hl (k := 0) rfl (by rw [ev11989]; rfl) (by decide) rfl (fun ls hl => ?_)
                        refine lv_goto (tgt := 53) hx hb dX12_findRules_102 (by decide) ?_
                        exact ih11975 v11989 f11988 ⟨by omega, by omega⟩ hf11988 (show ∃ g : Nat → Int32, Pa ((iv 12 23) : Int32).toInt (x11395_2 : Int32).toInt g (fa 12 24) (St (fa 12 25) (mX (fa 12 26) 3) (fa 12 28)) (a).toInt ∧ Pb ((iv 12 23) : Int32).toInt (x11395_2 : Int32).toInt g f11988 (mX (fa 12 26) 3) (fa 12 28) (v11989 : Int32).toInt from (by
                              obtain ⟨g9, ga, gb⟩ := hq11975_0
                              have hv9 := congrArg Int32.toInt (show v11984 = fa 12 26 ((x11974_3 : Int32).toInt).toNat from ev11984)
                              have ho9 := congrArg Int32.toInt (show v11981 = w11974_a_12_39 ((x11395_2 : Int32).toInt).toNat from ev11981)
                              have hn9 := congrArg Int32.toInt (show v11977 = fa 12 25 ((x11395_2 : Int32).toInt).toNat from ev11977)
                              have hk9 : ((((x11395_2 : Int32).toInt).toNat : Nat) : Int) = (x11395_2 : Int32).toInt := Int.toNat_of_nonneg (by omega)
                              have hx9 := congrArg Int32.toInt (show v11987 = fa 12 28 ((x11974_3 : Int32).toInt).toNat from ev11987)
                              have hi9 : ((fa 12 28 ((x11974_3 : Int32).toInt).toNat).toInt).toNat = (v11987 : Int32).toNatClampNeg := by show _ = (v11987 : Int32).toInt.toNat; omega
                              have h5 := hJK ((x11395_2 : Int32).toInt).toNat ((x11974_3 : Int32).toInt).toNat (by omega) (by omega) (by omega) (by omega)
                              exact ⟨g9, ga, Pb_y (j := ((x11974_3 : Int32).toInt).toNat) (c := (x11974_3 : Int32).toInt) (by omega) (by omega) (by omega) (show (fa 12 26 ((x11974_3 : Int32).toInt).toNat).toInt = 3 from by omega) (by omega) (by omega) ⟨by omega, by omega⟩ (fun r hr => by rw [hi9] at hr; rw [ef11988, upd_ne hr]) (by rw [hi9, ef11988, upd_eq]; decide) gb⟩)) (show 12 * (x11395_2 : Int32).toInt ≤ (v11989 : Int32).toInt from by omega) (show (v11989 : Int32).toInt ≤ 12 * (x11395_2 : Int32).toInt + ((fa 12 25) ((x11395_2 : Int32).toInt).toNat).toInt from by omega) (by omega) _ _ ls hP hD hS (lv_sub hl [0, 1, 2, 3] rfl)
              exact lp11975 97 v11928 w11395_a_12_39 ⟨by omega, by omega⟩ hw11395_a_12_39 (show ∃ g : Nat → Int32, Pa ((iv 12 23) : Int32).toInt (x11395_2 : Int32).toInt g (fa 12 24) (St (fa 12 25) (mX (fa 12 26) 3) (fa 12 28)) (a).toInt ∧ Pb ((iv 12 23) : Int32).toInt (x11395_2 : Int32).toInt g w11395_a_12_39 (mX (fa 12 26) 3) (fa 12 28) (v11928 : Int32).toInt from ⟨_, hq11396_0, (by rw [show (v11928 : Int32).toInt = 12 * (x11395_2 : Int32).toInt from by omega]; exact Pb_0)⟩) (show 12 * (x11395_2 : Int32).toInt ≤ (v11928 : Int32).toInt from by omega) (show (v11928 : Int32).toInt ≤ 12 * (x11395_2 : Int32).toInt + ((fa 12 25) ((x11395_2 : Int32).toInt).toNat).toInt from by omega) (by first | decide | omega) _ _ ls hP hD hS (lv_sub hl [0, 1, 2, 3] rfl)
        exact lp11396 9 v10206 w10203_a_12_39 ⟨by omega, by omega⟩ hw10203_a_12_39 (show Pa ((iv 12 23) : Int32).toInt (v10206 : Int32).toInt w10203_a_12_39 (fa 12 24) (St (fa 12 25) (mX (fa 12 26) 3) (fa 12 28)) (a).toInt from (by have hq9 := Pa_0 (n := (iv 12 23).toInt) (st := (St (fa 12 25) (mX (fa 12 26) 3) (fa 12 28))) (fun r hr => hq10204_0 r (by omega)); have he9 : (v10206 : Int32).toInt = (iv 12 23).toInt - 1 := (by omega); rw [he9]; exact hq9)) (show (v10206 : Int32).toInt + 1 ≤ ((iv 12 23) : Int32).toInt from by omega) (show -1 ≤ (v10206 : Int32).toInt from by omega) (by first | decide | omega) _ _ ls hP hD hS (lv_sub hl [0, 1, 2] rfl)
      · have fc10205 := z_nle (rfl : ((iv 12 23)).toInt = _) (rfl : (x10203_2).toInt = _) c10205
        refine lv_aload_n hx hb dX12_findRules_10 rfl (lv_at hl 1 rfl) ?_
        refine gM_12_39 hx hb ht hown hK hP m_1178 dX12_findRules_11 ?_
        refine lv_iload_n hx hb dX12_findRules_14 rfl (lv_at hl 0 rfl) ?_
        refine lv_aload_n hx hb dX12_findRules_15 rfl (lv_at hl 1 rfl) ?_
        refine gM_12_24 hx hb ht hown hK hP m_1163 dX12_findRules_16 ?_
        refine lv_iload_n hx hb dX12_findRules_19 rfl (lv_at hl 0 rfl) ?_
        refine lM_12_24 hx hb hK hP (f := (fa 12 24)) rfl (vp_in_iff.mpr ⟨by omega, by omega⟩) dX12_findRules_20 ?_
        refine lv_topi (fun v11990 ev11990 => ?_)
        refine lv_iload_n hx hb dX12_findRules_21 rfl (lv_at hl 2 rfl) ?_
        refine lv_icmp_gt (tgt := 29) hx hb dX12_findRules_22 (by decide) (fun c11991 => ?_) (fun c11991 => ?_)
        · have fc11991 := z_lt (rfl : (a).toInt = _) (rfl : (v11990).toInt = _) c11991
          refine lv_iconst (v := 0) hx hb dX12_findRules_29 (by decide) ?_
          refine tM_12_39 hx hb hK hP hD hS (f0 := w10203_a_12_39) rfl (i := x10203_2) (x := 0) (vp_in_iff.mpr ⟨by omega, by omega⟩) dX12_findRules_30 (fun f11992 ef11992 H locs hP hD hS => ?_)
          have hf11992 : ∀ j, inb (bA 12 39 j) (f11992 j) := by rw [ef11992]; exact upd_b (b := bA 12 39) hw10203_a_12_39 (show inb (0, 1) (vp_nar .boolean 0) from ⟨by decide, by decide⟩)
          have hP : va_P (dC, dI) classes (WM h g ca iv lv (u2 fa 12 39 f11992) la) H := hP
          have hD : va_D A (WM h g ca iv lv (u2 fa 12 39 f11992) la) := hD
          obtain ⟨v11993, ev11993⟩ : ∃ y : Int32, y = x10203_2 + 1 := ⟨_, rfl⟩
          have tv11993 := z_add ev11993 rfl (by decide : (1 : Int32).toInt = 1) (by omega) (by omega)
          refine lv_iinc (v := v11993) (lv' := [(2, .int v11993), (0, .ref h), (1, .int a)]) hx hb dX12_findRules_31 hl (k := 0) rfl (by rw [ev11993]; rfl) (by decide) rfl (fun ls hl => ?_)
          refine lv_goto (tgt := 2) hx hb dX12_findRules_34 (by decide) ?_
          exact ih10204 v11993 f11992 ⟨by omega, by omega⟩ hf11992 (show ∀ r : Nat, (r : Int) < (v11993 : Int32).toInt → ((f11992 r).toInt = 1 ↔ ((fa 12 24) r).toInt ≤ (a).toInt) from (fun r h => by
                by_cases hj : (r : Int) < (x10203_2 : Int32).toInt
                · rw [ef11992, upd_ne (by show r ≠ (x10203_2 : Int32).toInt.toNat; omega)]; exact hq10204_0 r hj
                · have hj2 : r = ((x10203_2 : Int32).toInt).toNat := by omega
                  have hv9 := congrArg Int32.toInt (show v11990 = fa 12 24 ((x10203_2 : Int32).toInt).toNat from ev11990)
                  have hw9 : (f11992 ((x10203_2 : Int32).toInt).toNat).toInt = 0 := by rw [ef11992, show ((x10203_2 : Int32).toInt).toNat = (x10203_2 : Int32).toNatClampNeg from rfl, upd_eq]; decide
                  rw [hj2]
                  omega)) (show (v11993 : Int32).toInt ≤ ((iv 12 23) : Int32).toInt from by omega) (by omega) _ _ ls hP hD hS (lv_sub hl [0, 1, 2] rfl)
        · have fc11991 := z_nlt (rfl : (a).toInt = _) (rfl : (v11990).toInt = _) c11991
          refine lv_iconst (v := 1) hx hb dX12_findRules_25 (by decide) ?_
          refine lv_goto (tgt := 30) hx hb dX12_findRules_26 (by decide) ?_
          refine tM_12_39 hx hb hK hP hD hS (f0 := w10203_a_12_39) rfl (i := x10203_2) (x := 1) (vp_in_iff.mpr ⟨by omega, by omega⟩) dX12_findRules_30 (fun f11994 ef11994 H locs hP hD hS => ?_)
          have hf11994 : ∀ j, inb (bA 12 39 j) (f11994 j) := by rw [ef11994]; exact upd_b (b := bA 12 39) hw10203_a_12_39 (show inb (0, 1) (vp_nar .boolean 1) from ⟨by decide, by decide⟩)
          have hP : va_P (dC, dI) classes (WM h g ca iv lv (u2 fa 12 39 f11994) la) H := hP
          have hD : va_D A (WM h g ca iv lv (u2 fa 12 39 f11994) la) := hD
          obtain ⟨v11995, ev11995⟩ : ∃ y : Int32, y = x10203_2 + 1 := ⟨_, rfl⟩
          have tv11995 := z_add ev11995 rfl (by decide : (1 : Int32).toInt = 1) (by omega) (by omega)
          refine lv_iinc (v := v11995) (lv' := [(2, .int v11995), (0, .ref h), (1, .int a)]) hx hb dX12_findRules_31 hl (k := 0) rfl (by rw [ev11995]; rfl) (by decide) rfl (fun ls hl => ?_)
          refine lv_goto (tgt := 2) hx hb dX12_findRules_34 (by decide) ?_
          exact ih10204 v11995 f11994 ⟨by omega, by omega⟩ hf11994 (show ∀ r : Nat, (r : Int) < (v11995 : Int32).toInt → ((f11994 r).toInt = 1 ↔ ((fa 12 24) r).toInt ≤ (a).toInt) from (fun r h => by
                by_cases hj : (r : Int) < (x10203_2 : Int32).toInt
                · rw [ef11994, upd_ne (by show r ≠ (x10203_2 : Int32).toInt.toNat; omega)]; exact hq10204_0 r hj
                · have hj2 : r = ((x10203_2 : Int32).toInt).toNat := by omega
                  have hv9 := congrArg Int32.toInt (show v11990 = fa 12 24 ((x10203_2 : Int32).toInt).toNat from ev11990)
                  have hw9 : (f11994 ((x10203_2 : Int32).toInt).toNat).toInt = 1 := by rw [ef11994, show ((x10203_2 : Int32).toInt).toNat = (x10203_2 : Int32).toNatClampNeg from rfl, upd_eq]; decide
                  rw [hj2]
                  omega)) (show (v11995 : Int32).toInt ≤ ((iv 12 23) : Int32).toInt from by omega) (by omega) _ _ ls hP hD hS (lv_sub hl [0, 1, 2] rfl)
  have : (0 : Int32).toInt = 0 := (by decide)
  have i_12_23 : 0 ≤ (iv 12 23).toInt ∧ (iv 12 23).toInt ≤ 8 := hI.1 12 23
  exact lp10204 9 0 (fa 12 39) ⟨by decide, by decide⟩ (hI.2 12 39) (show ∀ r : Nat, (r : Int) < (0 : Int32).toInt → (((fa 12 39) r).toInt = 1 ↔ ((fa 12 24) r).toInt ≤ (a).toInt) from fun r h => absurd h (by omega)) (show (0 : Int32).toInt ≤ ((iv 12 23) : Int32).toInt from by omega) (by first | decide | omega) _ _ ls hP hD hS (lv_sub hl [0, 1, 2] rfl)
/-! ===== bk5 ===== -/
set_option maxHeartbeats 4000000 in
set_option maxRecDepth 100000 in
/-- X12_atFirst -/
theorem c_X12_atFirst_f (l : Launch) (dC : Nat → ClassId) (dI : Nat → Nat → Nat) (a : Int32) (h_a : 0 ≤ a.toInt ∧ a.toInt ≤ 5) : Met l yX12_atFirst (wc yX12_atFirst cX12_atFirst 1 (some .int)) ({ frames := 0, cells := 0, slots := 0, locals := 0 } : Room) (pR (dC, dI) classes [] [] [.int a]) (vp_Si (fun r => (0 ≤ r.toInt ∧ r.toInt ≤ 110) ∧ (r.toInt = aF a.toInt))) 0 0 (fun _ => False) := by
  refine Met.ofW (cc := cX12_atFirst) (maxL := 1) (ret := (some .int)) (by decide) rfl ?_
  intro p e s m args below meth c s₁ B hml hv
  obtain ⟨rfl, hP, hK⟩ := hv
  have hx := B.exec
  have hb := B.bytes
  have hr := B.returns
  have ht := tb_tl (atoms_spec (ws := wc yX12_atFirst cX12_atFirst 1 (some .int)) B.pre)
  have hown : s.vm.findClass RX12 = some m.cls := findClass_of_methodNamed B.named
  have hlocks := B.notSynchronized
  have hl := lv_entry [.int a] (n := 1) (Nat.le_of_ble_eq_true rfl)
  rw [lg_entry_eq]
  generalize (lg_sl [.int a] ++ List.replicate (1 - (lg_sl [.int a]).length) Slot.unset).toArray = ls at hl ⊢
  have hl : lv_has ls 1 [(0, .int a)] := hl
  refine lv_iload_n hx hb dX12_atFirst_0 rfl (lv_at hl 0 rfl) ?_
  rcases sw_0_4 a with h1 | rfl | rfl | rfl | rfl | rfl
  · refine lv_tableOut (tgt := 48) hx hb dX12_atFirst_1 h1 (by decide) ?_
    refine lv_iconst (v := 0) hx hb dX12_atFirst_48 (by decide) ?_
    have : (0 : Int32).toInt = 0 := (by decide)
    exact W.iret (v := 0) hx hb hr (fun t ht9 hW => ⟨0, rfl, ⟨⟨by decide, by decide⟩, (show (0 : Int32).toInt = aF (a).toInt from (by rw [show a.toInt = 5 from by omega]; decide))⟩, ht9⟩) (fun q hq => by cases hq) dX12_atFirst_49
  · refine lv_tableIn (tgt := 36) (off := 35) hx hb dX12_atFirst_1 (by decide) (by decide) rfl (by decide) ?_
    refine lv_bipush (v := 110) hx hb dX12_atFirst_36 (by decide) ?_
    have : (110 : Int32).toInt = 110 := (by decide)
    have : (0 : Int32).toInt = 0 := (by decide)
    exact W.iret (v := 110) hx hb hr (fun t ht9 hW => ⟨110, rfl, ⟨⟨by decide, by decide⟩, (show (110 : Int32).toInt = aF (0 : Int32).toInt from (by decide))⟩, ht9⟩) (fun q hq => by cases hq) dX12_atFirst_38
  · refine lv_tableIn (tgt := 39) (off := 38) hx hb dX12_atFirst_1 (by decide) (by decide) rfl (by decide) ?_
    refine lv_iconst (v := 3) hx hb dX12_atFirst_39 (by decide) ?_
    have : (3 : Int32).toInt = 3 := (by decide)
    have : (1 : Int32).toInt = 1 := (by decide)
    exact W.iret (v := 3) hx hb hr (fun t ht9 hW => ⟨3, rfl, ⟨⟨by decide, by decide⟩, (show (3 : Int32).toInt = aF (1 : Int32).toInt from (by decide))⟩, ht9⟩) (fun q hq => by cases hq) dX12_atFirst_40
  · refine lv_tableIn (tgt := 41) (off := 40) hx hb dX12_atFirst_1 (by decide) (by decide) rfl (by decide) ?_
    refine lv_iconst (v := 5) hx hb dX12_atFirst_41 (by decide) ?_
    have : (5 : Int32).toInt = 5 := (by decide)
    have : (2 : Int32).toInt = 2 := (by decide)
    exact W.iret (v := 5) hx hb hr (fun t ht9 hW => ⟨5, rfl, ⟨⟨by decide, by decide⟩, (show (5 : Int32).toInt = aF (2 : Int32).toInt from (by decide))⟩, ht9⟩) (fun q hq => by cases hq) dX12_atFirst_42
  · refine lv_tableIn (tgt := 43) (off := 42) hx hb dX12_atFirst_1 (by decide) (by decide) rfl (by decide) ?_
    refine lv_iconst (v := 2) hx hb dX12_atFirst_43 (by decide) ?_
    have : (2 : Int32).toInt = 2 := (by decide)
    have : (3 : Int32).toInt = 3 := (by decide)
    exact W.iret (v := 2) hx hb hr (fun t ht9 hW => ⟨2, rfl, ⟨⟨by decide, by decide⟩, (show (2 : Int32).toInt = aF (3 : Int32).toInt from (by decide))⟩, ht9⟩) (fun q hq => by cases hq) dX12_atFirst_44
  · refine lv_tableIn (tgt := 45) (off := 44) hx hb dX12_atFirst_1 (by decide) (by decide) rfl (by decide) ?_
    refine lv_bipush (v := 10) hx hb dX12_atFirst_45 (by decide) ?_
    have : (10 : Int32).toInt = 10 := (by decide)
    have : (4 : Int32).toInt = 4 := (by decide)
    exact W.iret (v := 10) hx hb hr (fun t ht9 hW => ⟨10, rfl, ⟨⟨by decide, by decide⟩, (show (10 : Int32).toInt = aF (4 : Int32).toInt from (by decide))⟩, ht9⟩) (fun q hq => by cases hq) dX12_atFirst_47
set_option maxHeartbeats 4000000 in
set_option maxRecDepth 100000 in
/-- X12_forceOf -/
theorem c_X12_forceOf_f (l : Launch) (dC : Nat → ClassId) (dI : Nat → Nat → Nat) (sz : Nat) (h : Nat) (g : Nat → Nat → Nat) (ca : Nat → Nat → ClassId) (iv : Nat → Nat → Int32) (lv : Nat → Nat → Int64) (fa : Nat → Nat → Nat → Int32) (la : Nat → Nat → Nat → Int64) (hI : IX iv fa) (a : Int32) (b : Int32) (h_a : 0 ≤ a.toInt ∧ a.toInt ≤ 5) (hJC : JCf (iv 12 23).toInt (fa 12 25) (fa 12 26) (fa 12 27) (fa 12 28)) (hJK : ∀ k j : Nat, (k : Int) < (iv 12 23).toInt → 12 * k ≤ j → (j : Int) < 12 * (k : Int) + (fa 12 25 k).toInt → (fa 12 26 j).toInt = 3 → 0 ≤ (fa 12 28 j).toInt ∧ (fa 12 28 j).toInt < (k : Int)) : Met l yX12_forceOf (wc yX12_forceOf cX12_forceOf 7 (some .int)) ({ frames := 1, cells := 0, slots := 0, locals := 23 } : Room) (pW (dC, dI) classes (WM h g ca iv lv fa la) (TM ca) sz [.ref h, .int a, .int b]) (va_Qi (fun r (u : SS) => ∃ (na_12_39 : Nat → Int32) (na_12_40 : Nat → Int32) (ni_12_41 : Int32), (∀ j, inb (bA 12 39 j) (na_12_39 j)) ∧ (∀ j, inb (bA 12 40 j) (na_12_40 j)) ∧ inb (bI 12 41) ni_12_41 ∧ (FoY (iv 12 23).toInt (fa 12 24) (fa 12 25) (fa 12 26) (fa 12 27) (fa 12 28) a.toInt b.toInt r.toInt) ∧ (True) ∧ u = ((u2 iv 12 41 ni_12_41), lv, (u2 (u2 fa 12 39 na_12_39) 12 40 na_12_40), la)) (bM (dC, dI) h g ca (va_A (WM h g ca iv lv fa la) sz)) (va_A (WM h g ca iv lv fa la) sz)) 0 0 (va_A (WM h g ca iv lv fa la) sz) := by
  refine Met.ofW (cc := cX12_forceOf) (maxL := 7) (ret := (some .int)) (by decide) rfl ?_
  intro p e s m args below meth c s₁ B hml hv
  obtain ⟨rfl, hsz, hP, hK, hD0⟩ := hv
  have hx := B.exec
  have hb := B.bytes
  have hr := B.returns
  have ht := tb_tl (atoms_spec (ws := wc yX12_forceOf cX12_forceOf 7 (some .int)) B.pre)
  have hown : s.vm.findClass RX12 = some m.cls := findClass_of_methodNamed B.named
  have hlocks := B.notSynchronized
  subst hsz
  have hD := hD0.self (sz := s.heap.size)
  generalize hAe : va_A (WM h g ca iv lv fa la) s.heap.size = A at hD ⊢
  have hA : ∀ q : Nat, s.heap.size ≤ q → A q := fun q h => by rw [← hAe]; exact Or.inr h
  have hS : va_S A s.heap s.heap [] := va_S.rf
  have hl := lv_entry [.ref h, .int a, .int b] (n := 7) (Nat.le_of_ble_eq_true rfl)
  rw [lg_entry_eq]
  generalize (lg_sl [.ref h, .int a, .int b] ++ List.replicate (7 - (lg_sl [.ref h, .int a, .int b]).length) Slot.unset).toArray = ls at hl ⊢
  have hl : lv_has ls 7 [(0, .ref h), (1, .int a), (2, .int b)] := hl
  refine lv_aload_n hx hb dX12_forceOf_0 rfl (lv_at hl 0 rfl) ?_
  refine lv_iload_n hx hb dX12_forceOf_1 rfl (lv_at hl 2 rfl) ?_
  have hFc := free_all hD hS hA
  refine va_callv (va_runV (As := [.int b]) (rest := []) ⟨hx, hb, hml, hown, ht⟩ (c_X12_findRules_f l dC dI s.heap.size h g ca iv lv fa la hI b hJC hJK) (kV 1 ht m_1513 m_1515 m_56 m_89 m_1516 rfl rfl hd_X12_findRules_v ⟨Nat.le_of_ble_eq_true rfl, Nat.le_of_ble_eq_true rfl⟩) (vW hP hK hD (rM_12 hK hP)) rfl rfl hl.1 rfl (lv_room (Nat.le_of_ble_eq_true rfl)) dX12_forceOf_2 ⟨Nat.le_of_ble_eq_true rfl, Nat.le_of_ble_eq_true rfl⟩) hS (fun q _ h => hFc q h) hFc (fun u t H1 locs ht9 hvm hr1 hB hz1 hk1 hS => ?_)
  obtain ⟨n2, n3, n4, hn2, hn3, hn4, xr1_0, xr1_1, xr1_2, xr1_3, rfl⟩ := hr1
  have hn4 : 0 ≤ n4.toInt ∧ n4.toInt ≤ 8 := hn4
  obtain ⟨hP, hD⟩ := hB
  rw [ht9] at hP
  generalize H1 = H at hP hS ⊢
  have hP : va_P (dC, dI) classes (WM h g ca (u2 iv 12 41 n4) lv (u2 (u2 fa 12 39 n2) 12 40 n3) la) H := hP
  have hD : va_D A (WM h g ca (u2 iv 12 41 n4) lv (u2 (u2 fa 12 39 n2) 12 40 n3) la) := (show va_D _ (WM h g ca (u2 iv 12 41 n4) lv (u2 (u2 fa 12 39 n2) 12 40 n3) la) from hD).weaken (fun _ _ _ h => hFc _ h)
  have i_12_23 : 0 ≤ (iv 12 23).toInt ∧ (iv 12 23).toInt ≤ 8 := hI.1 12 23
  have xr1_0 : ∀ j : Nat, (j : Int) < (n4 : Int32).toInt → (n3 j).toInt < ((iv 12 23) : Int32).toInt := xr1_0
  have xr1_1 : (n4 : Int32).toInt ≤ ((iv 12 23) : Int32).toInt := xr1_1
  have xr1_2 : OnR ((iv 12 23) : Int32).toInt (fun r => (n2 r).toInt = 1) (fa 12 24) (St (fa 12 25) (mX (fa 12 26) 3) (fa 12 28)) (b : Int32).toInt := xr1_2
  have xr1_3 : OrK ((iv 12 23) : Int32).toInt (fun r => (n2 r).toInt = 1) (fa 12 24) n3 (n4 : Int32).toInt := xr1_3
  refine lv_iload_n hx hb dX12_forceOf_5 rfl (lv_at hl 1 rfl) ?_
  refine vp_callSi (W.runS (As := [.int a]) (rest := []) ⟨hx, hb, hml, hown, ht⟩ (c_X12_atFirst_f l dC dI a ⟨by omega, by omega⟩) (kS 1 ht m_1517 m_1518 m_89 m_1519 rfl rfl hd_X12_atFirst_v ⟨Nat.le_of_ble_eq_true rfl, Nat.le_of_ble_eq_true rfl⟩) (sR noP (hK.sub (tys' := []) [] rfl)) rfl rfl hl.1 rfl (lv_room (Nat.le_of_ble_eq_true rfl)) dX12_forceOf_6 ⟨Nat.le_of_ble_eq_true rfl, Nat.le_of_ble_eq_true rfl⟩) (fun r5 hr5 => ?_)
  obtain ⟨hr5, xr5_0⟩ := hr5
  have xr5_0 : (r5 : Int32).toInt = aF (a : Int32).toInt := xr5_0
  refine lv_istore_n (lv' := [(3, .int r5), (0, .ref h), (1, .int a), (2, .int b)]) hx hb dX12_forceOf_9 rfl hl (by decide) rfl (fun ls hl => ?_)
  refine lv_iconst (v := 0) hx hb dX12_forceOf_10 (by decide) ?_
  refine lv_istore (lv' := [(4, .int 0), (3, .int r5), (0, .ref h), (1, .int a), (2, .int b)]) hx hb dX12_forceOf_11 hl (by decide) rfl (fun ls hl => ?_)
  have lp1024 : ∀ (nn1024 : Nat) (x1023_4 : Int32) (x1023_3 : Int32), 0 ≤ x1023_4.toInt ∧ x1023_4.toInt ≤ 8 → (SqO (fa 12 25) n3 (mY (fa 12 26) (fa 12 27) (a).toInt) (vI (fa 12 28)) (aF (a).toInt) (x1023_4 : Int32).toInt (x1023_3 : Int32).toInt) → (x1023_4 : Int32).toInt ≤ (n4 : Int32).toInt → 8 - x1023_4.toInt < (nn1024 : Int) → ∀ (H : Heap) (locs : List Loc), ∀ (ls : Array Slot), va_P (dC, dI) classes (WM h g ca (u2 iv 12 41 n4) lv (u2 (u2 fa 12 39 n2) 12 40 n3) la) H → va_D A (WM h g ca (u2 iv 12 41 n4) lv (u2 (u2 fa 12 39 n2) 12 40 n3) la) → va_S A s.heap H locs → lv_has ls 7 [(4, .int x1023_4), (3, .int x1023_3), (0, .ref h), (1, .int a), (2, .int b)] → W p l e ({ frames := 1, cells := 0, slots := 0, locals := 23 } : Room) s m ([.ref h, .int a, .int b] : List Value).toArray below meth c H locs 0 0 (MQ below (va_Qi (fun r (u : SS) => ∃ (na_12_39 : Nat → Int32) (na_12_40 : Nat → Int32) (ni_12_41 : Int32), (∀ j, inb (bA 12 39 j) (na_12_39 j)) ∧ (∀ j, inb (bA 12 40 j) (na_12_40 j)) ∧ inb (bI 12 41) ni_12_41 ∧ (FoY (iv 12 23).toInt (fa 12 24) (fa 12 25) (fa 12 26) (fa 12 27) (fa 12 28) a.toInt b.toInt r.toInt) ∧ (True) ∧ u = ((u2 iv 12 41 ni_12_41), lv, (u2 (u2 fa 12 39 na_12_39) 12 40 na_12_40), la)) (bM (dC, dI) h g ca A) A) ([.ref h, .int a, .int b] : List Value).toArray s 0 0 A) (F0 m 13 ls []) := by
    intro nn1024
    induction nn1024 with
    | zero => intro x1023_4 x1023_3 hx1023_4 hq1024_0 hq1024_1 hm1024; exfalso; omega
    | succ nn1024 ih1024 =>
      intro x1023_4 x1023_3 hx1023_4 hq1024_0 hq1024_1 hm1024 H locs ls hP hD hS hl
      refine lv_iload hx hb dX12_forceOf_13 (lv_at hl 0 rfl) ?_
      refine lv_aload_n hx hb dX12_forceOf_15 rfl (lv_at hl 2 rfl) ?_
      refine gM_12_41 hx hb ht hown hK hP m_1180 (v := n4) rfl dX12_forceOf_16 ?_
      refine lv_icmp_ge (tgt := 143) hx hb dX12_forceOf_19 (by decide) (fun c1025 => ?_) (fun c1025 => ?_)
      · have fc1025 := z_le (rfl : (n4).toInt = _) (rfl : (x1023_4).toInt = _) c1025
        refine lv_iload_n hx hb dX12_forceOf_143 rfl (lv_at hl 1 rfl) ?_
        have hP9 : va_P (dC, dI) classes (WM h g ca (u2 iv 12 41 n4) lv (u2 (u2 fa 12 39 n2) 12 40 n3) la) H := hP
        have hD9 : va_D A (WM h g ca (u2 iv 12 41 n4) lv (u2 (u2 fa 12 39 n2) 12 40 n3) la) := hD
        exact W.iret (v := x1023_3) hx hb hr (fun t ht9 hW => ⟨⟨x1023_3, ((u2 iv 12 41 n4), lv, (u2 (u2 fa 12 39 n2) 12 40 n3), la), rfl, ⟨n2, n3, n4, hn2, hn3, (show inb (0, 8) n4 from ⟨by omega, by omega⟩), (show FoY ((iv 12 23) : Int32).toInt (fa 12 24) (fa 12 25) (fa 12 26) (fa 12 27) (fa 12 28) (a).toInt (b).toInt (x1023_3 : Int32).toInt from (by have hq9 := hq1024_0; have he9 : (x1023_4 : Int32).toInt = (n4 : Int32).toInt := (by omega); rw [he9] at hq9; obtain ⟨s9, hs9⟩ := SqO_Best (by omega) xr1_3 hq9; exact ⟨_, s9, xr1_2, hs9⟩)), trivial, rfl⟩, by rw [ht9]; exact hP9, hD9⟩, hS.F ht9⟩) hS.2.2 dX12_forceOf_144
      · have fc1025 := z_nle (rfl : (n4).toInt = _) (rfl : (x1023_4).toInt = _) c1025
        refine lv_bipush (v := 12) hx hb dX12_forceOf_22 (by decide) ?_
        refine lv_aload_n hx hb dX12_forceOf_24 rfl (lv_at hl 2 rfl) ?_
        refine gM_12_40 hx hb ht hown hK hP m_1179 dX12_forceOf_25 ?_
        refine lv_iload hx hb dX12_forceOf_28 (lv_at hl 0 rfl) ?_
        refine lM_12_40 hx hb hK hP (f := n3) rfl (vp_in_iff.mpr ⟨by omega, by omega⟩) dX12_forceOf_30 ?_
        refine lv_topi (fun v1026 ev1026 => ?_)
        have tv1026 : 0 ≤ v1026.toInt ∧ v1026.toInt ≤ 7 := by rw [ev1026]; exact hn3 _
        refine lv_imul hx hb dX12_forceOf_31 ?_
        refine lv_topi (fun v1027 ev1027 => ?_)
        have tv1027 := z_mul ev1027 (by decide : (12 : Int32).toInt = 12) (rfl : (v1026).toInt = _) (by omega) (by omega)
        refine lv_istore (lv' := [(5, .int v1027), (4, .int x1023_4), (3, .int x1023_3), (0, .ref h), (1, .int a), (2, .int b)]) hx hb dX12_forceOf_32 hl (by decide) rfl (fun ls hl => ?_)
        have lp1110 : ∀ (nn1110 : Nat) (x1109_5 : Int32) (x1109_3 : Int32), 0 ≤ x1109_5.toInt ∧ x1109_5.toInt ≤ 96 → (SqI (fa 12 25) n3 (mY (fa 12 26) (fa 12 27) (a).toInt) (vI (fa 12 28)) (aF (a).toInt) (x1023_4 : Int32).toInt (12 * (n3 ((x1023_4 : Int32).toInt).toNat).toInt) (x1109_5 : Int32).toInt (x1109_3 : Int32).toInt) → (12 * (n3 ((x1023_4 : Int32).toInt).toNat).toInt ≤ (x1109_5 : Int32).toInt) → ((x1109_5 : Int32).toInt ≤ 12 * (n3 ((x1023_4 : Int32).toInt).toNat).toInt + ((fa 12 25) ((n3 ((x1023_4 : Int32).toInt).toNat).toInt).toNat).toInt) → 96 - x1109_5.toInt < (nn1110 : Int) → ∀ (H : Heap) (locs : List Loc), ∀ (ls : Array Slot), va_P (dC, dI) classes (WM h g ca (u2 iv 12 41 n4) lv (u2 (u2 fa 12 39 n2) 12 40 n3) la) H → va_D A (WM h g ca (u2 iv 12 41 n4) lv (u2 (u2 fa 12 39 n2) 12 40 n3) la) → va_S A s.heap H locs → lv_has ls 7 [(5, .int x1109_5), (4, .int x1023_4), (3, .int x1109_3), (0, .ref h), (1, .int a), (2, .int b)] → W p l e ({ frames := 1, cells := 0, slots := 0, locals := 23 } : Room) s m ([.ref h, .int a, .int b] : List Value).toArray below meth c H locs 0 0 (MQ below (va_Qi (fun r (u : SS) => ∃ (na_12_39 : Nat → Int32) (na_12_40 : Nat → Int32) (ni_12_41 : Int32), (∀ j, inb (bA 12 39 j) (na_12_39 j)) ∧ (∀ j, inb (bA 12 40 j) (na_12_40 j)) ∧ inb (bI 12 41) ni_12_41 ∧ (FoY (iv 12 23).toInt (fa 12 24) (fa 12 25) (fa 12 26) (fa 12 27) (fa 12 28) a.toInt b.toInt r.toInt) ∧ (True) ∧ u = ((u2 iv 12 41 ni_12_41), lv, (u2 (u2 fa 12 39 na_12_39) 12 40 na_12_40), la)) (bM (dC, dI) h g ca A) A) ([.ref h, .int a, .int b] : List Value).toArray s 0 0 A) (F0 m 34 ls []) := by
          intro nn1110
          induction nn1110 with
          | zero => intro x1109_5 x1109_3 hx1109_5 hq1110_0 hq1110_1 hq1110_2 hm1110; exfalso; omega
          | succ nn1110 ih1110 =>
            intro x1109_5 x1109_3 hx1109_5 hq1110_0 hq1110_1 hq1110_2 hm1110 H locs ls hP hD hS hl
            refine lv_iload hx hb dX12_forceOf_34 (lv_at hl 0 rfl) ?_
            refine lv_bipush (v := 12) hx hb dX12_forceOf_36 (by decide) ?_
            refine lv_aload_n hx hb dX12_forceOf_38 rfl (lv_at hl 3 rfl) ?_
            refine gM_12_40 hx hb ht hown hK hP m_1179 dX12_forceOf_39 ?_
            refine lv_iload hx hb dX12_forceOf_42 (lv_at hl 1 rfl) ?_
            refine lM_12_40 hx hb hK hP (f := n3) rfl (vp_in_iff.mpr ⟨by omega, by omega⟩) dX12_forceOf_44 ?_
            refine lv_topi (fun v1111 ev1111 => ?_)
            obtain rfl : v1026 = v1111 := ev1026.trans ev1111.symm
            refine lv_imul hx hb dX12_forceOf_45 ?_
            refine lv_topi (fun v1112 ev1112 => ?_)
            obtain rfl : v1027 = v1112 := ev1027.trans ev1112.symm
            refine lv_aload_n hx hb dX12_forceOf_46 rfl (lv_at hl 3 rfl) ?_
            refine gM_12_25 hx hb ht hown hK hP m_1164 dX12_forceOf_47 ?_
            refine lv_aload_n hx hb dX12_forceOf_50 rfl (lv_at hl 3 rfl) ?_
            refine gM_12_40 hx hb ht hown hK hP m_1179 dX12_forceOf_51 ?_
            refine lv_iload hx hb dX12_forceOf_54 (lv_at hl 1 rfl) ?_
            refine lM_12_40 hx hb hK hP (f := n3) rfl (vp_in_iff.mpr ⟨by omega, by omega⟩) dX12_forceOf_56 ?_
            refine lv_topi (fun v1113 ev1113 => ?_)
            obtain rfl : v1026 = v1113 := ev1026.trans ev1113.symm
            refine lM_12_25 hx hb hK hP (f := (fa 12 25)) rfl (vp_in_iff.mpr ⟨by omega, by omega⟩) dX12_forceOf_57 ?_
            refine lv_topi (fun v1114 ev1114 => ?_)
            have tv1114 : 0 ≤ v1114.toInt ∧ v1114.toInt ≤ 12 := by rw [ev1114]; exact hI.2 12 25 _
            refine lv_iadd hx hb dX12_forceOf_58 ?_
            refine lv_topi (fun v1115 ev1115 => ?_)
            have tv1115 := z_add ev1115 (rfl : (v1027).toInt = _) (rfl : (v1114).toInt = _) (by omega) (by omega)
            refine lv_icmp_ge (tgt := 137) hx hb dX12_forceOf_59 (by decide) (fun c1116 => ?_) (fun c1116 => ?_)
            · have fc1116 := z_le (rfl : (v1115).toInt = _) (rfl : (x1109_5).toInt = _) c1116
              obtain ⟨v1117, ev1117⟩ : ∃ y : Int32, y = x1023_4 + 1 := ⟨_, rfl⟩
              have tv1117 := z_add ev1117 rfl (by decide : (1 : Int32).toInt = 1) (by omega) (by omega)
              refine lv_iinc (v := v1117) (lv' := [(4, .int v1117), (5, .int x1109_5), (3, .int x1109_3), (0, .ref h), (1, .int a), (2, .int b)]) hx hb dX12_forceOf_137 hl (k := 1) rfl (by rw [ev1117]; rfl) (by decide) rfl (fun ls hl => ?_)
              refine lv_goto (tgt := 13) hx hb dX12_forceOf_140 (by decide) ?_
              exact ih1024 v1117 x1109_3 ⟨by omega, by omega⟩ (show SqO (fa 12 25) n3 (mY (fa 12 26) (fa 12 27) (a).toInt) (vI (fa 12 28)) (aF (a).toInt) (v1117 : Int32).toInt (x1109_3 : Int32).toInt from (by
                    have hp9 : v1026 = n3 ((x1023_4 : Int32).toInt).toNat := ev1026
                    have hn9 := congrArg Int32.toInt (show v1114 = fa 12 25 ((v1026 : Int32).toInt).toNat from ev1114)
                    rw [hp9] at hn9
                    have hp8 := congrArg Int32.toInt hp9
                    exact SqI_end (i := (x1023_4 : Int32).toInt) (lo := 12 * (n3 ((x1023_4 : Int32).toInt).toNat).toInt) (c := (x1109_5 : Int32).toInt) (by omega) (by omega) (by omega) (by omega) hq1110_0)) (show (v1117 : Int32).toInt ≤ (n4 : Int32).toInt from by omega) (by omega) _ _ ls hP hD hS (lv_sub hl [0, 2, 3, 4, 5] rfl)
            · have fc1116 := z_nle (rfl : (v1115).toInt = _) (rfl : (x1109_5).toInt = _) c1116
              refine lv_iload_n hx hb dX12_forceOf_62 rfl (lv_at hl 4 rfl) ?_
              refine lv_iconst (v := 5) hx hb dX12_forceOf_63 (by decide) ?_
              refine lv_icmp_ne (tgt := 86) hx hb dX12_forceOf_64 (by decide) (fun c1118 => ?_) (fun c1118 => ?_)
              · have fc1118 := z_ne (rfl : (a).toInt = _) (by decide : (5 : Int32).toInt = 5) c1118
                refine lv_aload_n hx hb dX12_forceOf_86 rfl (lv_at hl 3 rfl) ?_
                refine gM_12_26 hx hb ht hown hK hP m_1165 dX12_forceOf_87 ?_
                refine lv_iload hx hb dX12_forceOf_90 (lv_at hl 0 rfl) ?_
                refine lM_12_26 hx hb hK hP (f := (fa 12 26)) rfl (vp_in_iff.mpr ⟨by omega, by omega⟩) dX12_forceOf_92 ?_
                refine lv_topi (fun v1119 ev1119 => ?_)
                refine lv_if_ne (tgt := 111) hx hb dX12_forceOf_93 (by decide) (fun c1120 => ?_) (fun c1120 => ?_)
                · have fc1120 := z_ne (rfl : (v1119).toInt = _) (by decide : (0 : Int32).toInt = 0) c1120
                  refine lv_iconst (v := 0) hx hb dX12_forceOf_111 (by decide) ?_
                  refine lv_istore (lv' := [(6, .int 0), (5, .int x1109_5), (4, .int x1023_4), (3, .int x1109_3), (0, .ref h), (1, .int a), (2, .int b)]) hx hb dX12_forceOf_112 hl (by decide) rfl (fun ls hl => ?_)
                  refine lv_iload hx hb dX12_forceOf_114 (lv_at hl 0 rfl) ?_
                  refine lv_if_eq (tgt := 129) hx hb dX12_forceOf_116 (by decide) (fun c1121 => ?_) (fun c1121 => ?_)
                  · skip
                    refine lv_iload_n hx hb dX12_forceOf_129 rfl (lv_at hl 3 rfl) ?_
                    refine lv_istore_n (lv' := [(3, .int x1109_3), (6, .int 0), (5, .int x1109_5), (4, .int x1023_4), (0, .ref h), (1, .int a), (2, .int b)]) hx hb dX12_forceOf_130 rfl hl (by decide) rfl (fun ls hl => ?_)
                    obtain ⟨v1122, ev1122⟩ : ∃ y : Int32, y = x1109_5 + 1 := ⟨_, rfl⟩
                    have tv1122 := z_add ev1122 rfl (by decide : (1 : Int32).toInt = 1) (by omega) (by omega)
                    refine lv_iinc (v := v1122) (lv' := [(5, .int v1122), (3, .int x1109_3), (6, .int 0), (4, .int x1023_4), (0, .ref h), (1, .int a), (2, .int b)]) hx hb dX12_forceOf_131 hl (k := 2) rfl (by rw [ev1122]; rfl) (by decide) rfl (fun ls hl => ?_)
                    refine lv_goto (tgt := 34) hx hb dX12_forceOf_134 (by decide) ?_
                    exact ih1110 v1122 x1109_3 ⟨by omega, by omega⟩ (show SqI (fa 12 25) n3 (mY (fa 12 26) (fa 12 27) (a).toInt) (vI (fa 12 28)) (aF (a).toInt) (x1023_4 : Int32).toInt (12 * (n3 ((x1023_4 : Int32).toInt).toNat).toInt) (v1122 : Int32).toInt (x1109_3 : Int32).toInt from (by
                          have hv9 := congrArg Int32.toInt (show v1119 = fa 12 26 ((x1109_5 : Int32).toInt).toNat from ev1119)
                          exact SqI_n (j := ((x1109_5 : Int32).toInt).toNat) (c := (x1109_5 : Int32).toInt) (by omega) (by omega) (show ¬ ((a.toInt = 5 ∧ (fa 12 26 ((x1109_5 : Int32).toInt).toNat).toInt = 1) ∨ (a.toInt ≠ 5 ∧ (fa 12 26 ((x1109_5 : Int32).toInt).toNat).toInt = 0 ∧ (fa 12 27 ((x1109_5 : Int32).toInt).toNat).toInt = a.toInt)) from by omega) hq1110_0)) (show 12 * (n3 ((x1023_4 : Int32).toInt).toNat).toInt ≤ (v1122 : Int32).toInt from (by have hq9 := hq1110_1; omega)) (show (v1122 : Int32).toInt ≤ 12 * (n3 ((x1023_4 : Int32).toInt).toNat).toInt + ((fa 12 25) ((n3 ((x1023_4 : Int32).toInt).toNat).toInt).toNat).toInt from (by have hp9 : v1026 = n3 ((x1023_4 : Int32).toInt).toNat := ev1026; have hn9 := congrArg Int32.toInt (show v1114 = fa 12 25 ((v1026 : Int32).toInt).toNat from ev1114); rw [hp9] at hn9; have hp8 := congrArg Int32.toInt hp9; omega)) (by omega) _ _ ls hP hD hS (lv_sub hl [0, 3, 1, 4, 5, 6] rfl)
                  · exact absurd rfl c1121
                · have fc1120 := z_eq (rfl : (v1119).toInt = _) (by decide : (0 : Int32).toInt = 0) c1120
                  refine lv_aload_n hx hb dX12_forceOf_96 rfl (lv_at hl 3 rfl) ?_
                  refine gM_12_27 hx hb ht hown hK hP m_1166 dX12_forceOf_97 ?_
                  refine lv_iload hx hb dX12_forceOf_100 (lv_at hl 0 rfl) ?_
                  refine lM_12_27 hx hb hK hP (f := (fa 12 27)) rfl (vp_in_iff.mpr ⟨by omega, by omega⟩) dX12_forceOf_102 ?_
                  refine lv_topi (fun v1123 ev1123 => ?_)
                  refine lv_iload_n hx hb dX12_forceOf_103 rfl (lv_at hl 4 rfl) ?_
                  refine lv_icmp_ne (tgt := 111) hx hb dX12_forceOf_104 (by decide) (fun c1124 => ?_) (fun c1124 => ?_)
                  · have fc1124 := z_ne (rfl : (v1123).toInt = _) (rfl : (a).toInt = _) c1124
                    refine lv_iconst (v := 0) hx hb dX12_forceOf_111 (by decide) ?_
                    refine lv_istore (lv' := [(6, .int 0), (5, .int x1109_5), (4, .int x1023_4), (3, .int x1109_3), (0, .ref h), (1, .int a), (2, .int b)]) hx hb dX12_forceOf_112 hl (by decide) rfl (fun ls hl => ?_)
                    refine lv_iload hx hb dX12_forceOf_114 (lv_at hl 0 rfl) ?_
                    refine lv_if_eq (tgt := 129) hx hb dX12_forceOf_116 (by decide) (fun c1125 => ?_) (fun c1125 => ?_)
                    · skip
                      refine lv_iload_n hx hb dX12_forceOf_129 rfl (lv_at hl 3 rfl) ?_
                      refine lv_istore_n (lv' := [(3, .int x1109_3), (6, .int 0), (5, .int x1109_5), (4, .int x1023_4), (0, .ref h), (1, .int a), (2, .int b)]) hx hb dX12_forceOf_130 rfl hl (by decide) rfl (fun ls hl => ?_)
                      obtain ⟨v1126, ev1126⟩ : ∃ y : Int32, y = x1109_5 + 1 := ⟨_, rfl⟩
                      have tv1126 := z_add ev1126 rfl (by decide : (1 : Int32).toInt = 1) (by omega) (by omega)
                      refine lv_iinc (v := v1126) (lv' := [(5, .int v1126), (3, .int x1109_3), (6, .int 0), (4, .int x1023_4), (0, .ref h), (1, .int a), (2, .int b)]) hx hb dX12_forceOf_131 hl (k := 2) rfl (by rw [ev1126]; rfl) (by decide) rfl (fun ls hl => ?_)
                      refine lv_goto (tgt := 34) hx hb dX12_forceOf_134 (by decide) ?_
                      exact ih1110 v1126 x1109_3 ⟨by omega, by omega⟩ (show SqI (fa 12 25) n3 (mY (fa 12 26) (fa 12 27) (a).toInt) (vI (fa 12 28)) (aF (a).toInt) (x1023_4 : Int32).toInt (12 * (n3 ((x1023_4 : Int32).toInt).toNat).toInt) (v1126 : Int32).toInt (x1109_3 : Int32).toInt from (by
                            have hv9 := congrArg Int32.toInt (show v1119 = fa 12 26 ((x1109_5 : Int32).toInt).toNat from ev1119)
                            have hm9 := congrArg Int32.toInt (show v1123 = fa 12 27 ((x1109_5 : Int32).toInt).toNat from ev1123)
                            exact SqI_n (j := ((x1109_5 : Int32).toInt).toNat) (c := (x1109_5 : Int32).toInt) (by omega) (by omega) (show ¬ ((a.toInt = 5 ∧ (fa 12 26 ((x1109_5 : Int32).toInt).toNat).toInt = 1) ∨ (a.toInt ≠ 5 ∧ (fa 12 26 ((x1109_5 : Int32).toInt).toNat).toInt = 0 ∧ (fa 12 27 ((x1109_5 : Int32).toInt).toNat).toInt = a.toInt)) from by omega) hq1110_0)) (show 12 * (n3 ((x1023_4 : Int32).toInt).toNat).toInt ≤ (v1126 : Int32).toInt from (by have hq9 := hq1110_1; omega)) (show (v1126 : Int32).toInt ≤ 12 * (n3 ((x1023_4 : Int32).toInt).toNat).toInt + ((fa 12 25) ((n3 ((x1023_4 : Int32).toInt).toNat).toInt).toNat).toInt from (by have hp9 : v1026 = n3 ((x1023_4 : Int32).toInt).toNat := ev1026; have hn9 := congrArg Int32.toInt (show v1114 = fa 12 25 ((v1026 : Int32).toInt).toNat from ev1114); rw [hp9] at hn9; have hp8 := congrArg Int32.toInt hp9; omega)) (by omega) _ _ ls hP hD hS (lv_sub hl [0, 3, 1, 4, 5, 6] rfl)
                    · exact absurd rfl c1125
                  · have fc1124 := z_eq (rfl : (v1123).toInt = _) (rfl : (a).toInt = _) c1124
                    refine lv_iconst (v := 1) hx hb dX12_forceOf_107 (by decide) ?_
                    refine lv_goto (tgt := 112) hx hb dX12_forceOf_108 (by decide) ?_
                    refine lv_istore (lv' := [(6, .int 1), (5, .int x1109_5), (4, .int x1023_4), (3, .int x1109_3), (0, .ref h), (1, .int a), (2, .int b)]) hx hb dX12_forceOf_112 hl (by decide) rfl (fun ls hl => ?_)
                    refine lv_iload hx hb dX12_forceOf_114 (lv_at hl 0 rfl) ?_
                    refine lv_if_eq (tgt := 129) hx hb dX12_forceOf_116 (by decide) (fun c1127 => ?_) (fun c1127 => ?_)
                    · exact absurd c1127 (by decide)
                    · skip
                      refine lv_aload_n hx hb dX12_forceOf_119 rfl (lv_at hl 4 rfl) ?_
                      refine gM_12_28 hx hb ht hown hK hP m_1167 dX12_forceOf_120 ?_
                      refine lv_iload hx hb dX12_forceOf_123 (lv_at hl 1 rfl) ?_
                      refine lM_12_28 hx hb hK hP (f := (fa 12 28)) rfl (vp_in_iff.mpr ⟨by omega, by omega⟩) dX12_forceOf_125 ?_
                      refine lv_topi (fun v1128 ev1128 => ?_)
                      refine lv_goto (tgt := 130) hx hb dX12_forceOf_126 (by decide) ?_
                      refine lv_istore_n (lv' := [(3, .int v1128), (6, .int 1), (5, .int x1109_5), (4, .int x1023_4), (0, .ref h), (1, .int a), (2, .int b)]) hx hb dX12_forceOf_130 rfl hl (by decide) rfl (fun ls hl => ?_)
                      obtain ⟨v1129, ev1129⟩ : ∃ y : Int32, y = x1109_5 + 1 := ⟨_, rfl⟩
                      have tv1129 := z_add ev1129 rfl (by decide : (1 : Int32).toInt = 1) (by omega) (by omega)
                      refine lv_iinc (v := v1129) (lv' := [(5, .int v1129), (3, .int v1128), (6, .int 1), (4, .int x1023_4), (0, .ref h), (1, .int a), (2, .int b)]) hx hb dX12_forceOf_131 hl (k := 2) rfl (by rw [ev1129]; rfl) (by decide) rfl (fun ls hl => ?_)
                      refine lv_goto (tgt := 34) hx hb dX12_forceOf_134 (by decide) ?_
                      exact ih1110 v1129 v1128 ⟨by omega, by omega⟩ (show SqI (fa 12 25) n3 (mY (fa 12 26) (fa 12 27) (a).toInt) (vI (fa 12 28)) (aF (a).toInt) (x1023_4 : Int32).toInt (12 * (n3 ((x1023_4 : Int32).toInt).toNat).toInt) (v1129 : Int32).toInt (v1128 : Int32).toInt from (by
                            have hv9 := congrArg Int32.toInt (show v1119 = fa 12 26 ((x1109_5 : Int32).toInt).toNat from ev1119)
                            have hm9 := congrArg Int32.toInt (show v1123 = fa 12 27 ((x1109_5 : Int32).toInt).toNat from ev1123)
                            exact SqI_y (j := ((x1109_5 : Int32).toInt).toNat) (c := (x1109_5 : Int32).toInt) (by omega) (by omega) (by omega) (show ((a.toInt = 5 ∧ (fa 12 26 ((x1109_5 : Int32).toInt).toNat).toInt = 1) ∨ (a.toInt ≠ 5 ∧ (fa 12 26 ((x1109_5 : Int32).toInt).toNat).toInt = 0 ∧ (fa 12 27 ((x1109_5 : Int32).toInt).toNat).toInt = a.toInt)) from by omega) (congrArg Int32.toInt (show v1128 = fa 12 28 ((x1109_5 : Int32).toInt).toNat from ev1128)))) (show 12 * (n3 ((x1023_4 : Int32).toInt).toNat).toInt ≤ (v1129 : Int32).toInt from (by have hq9 := hq1110_1; omega)) (show (v1129 : Int32).toInt ≤ 12 * (n3 ((x1023_4 : Int32).toInt).toNat).toInt + ((fa 12 25) ((n3 ((x1023_4 : Int32).toInt).toNat).toInt).toNat).toInt from (by have hp9 : v1026 = n3 ((x1023_4 : Int32).toInt).toNat := ev1026; have hn9 := congrArg Int32.toInt (show v1114 = fa 12 25 ((v1026 : Int32).toInt).toNat from ev1114); rw [hp9] at hn9; have hp8 := congrArg Int32.toInt hp9; omega)) (by omega) _ _ ls hP hD hS (lv_sub hl [0, 3, 1, 4, 5, 6] rfl)
              · have fc1118 := z_eq (rfl : (a).toInt = _) (by decide : (5 : Int32).toInt = 5) c1118
                refine lv_aload_n hx hb dX12_forceOf_67 rfl (lv_at hl 3 rfl) ?_
                refine gM_12_26 hx hb ht hown hK hP m_1165 dX12_forceOf_68 ?_
                refine lv_iload hx hb dX12_forceOf_71 (lv_at hl 0 rfl) ?_
                refine lM_12_26 hx hb hK hP (f := (fa 12 26)) rfl (vp_in_iff.mpr ⟨by omega, by omega⟩) dX12_forceOf_73 ?_
                refine lv_topi (fun v1130 ev1130 => ?_)
                refine lv_iconst (v := 1) hx hb dX12_forceOf_74 (by decide) ?_
                refine lv_icmp_ne (tgt := 82) hx hb dX12_forceOf_75 (by decide) (fun c1131 => ?_) (fun c1131 => ?_)
                · have fc1131 := z_ne (rfl : (v1130).toInt = _) (by decide : (1 : Int32).toInt = 1) c1131
                  refine lv_iconst (v := 0) hx hb dX12_forceOf_82 (by decide) ?_
                  refine lv_goto (tgt := 112) hx hb dX12_forceOf_83 (by decide) ?_
                  refine lv_istore (lv' := [(6, .int 0), (5, .int x1109_5), (4, .int x1023_4), (3, .int x1109_3), (0, .ref h), (1, .int a), (2, .int b)]) hx hb dX12_forceOf_112 hl (by decide) rfl (fun ls hl => ?_)
                  refine lv_iload hx hb dX12_forceOf_114 (lv_at hl 0 rfl) ?_
                  refine lv_if_eq (tgt := 129) hx hb dX12_forceOf_116 (by decide) (fun c1132 => ?_) (fun c1132 => ?_)
                  · skip
                    refine lv_iload_n hx hb dX12_forceOf_129 rfl (lv_at hl 3 rfl) ?_
                    refine lv_istore_n (lv' := [(3, .int x1109_3), (6, .int 0), (5, .int x1109_5), (4, .int x1023_4), (0, .ref h), (1, .int a), (2, .int b)]) hx hb dX12_forceOf_130 rfl hl (by decide) rfl (fun ls hl => ?_)
                    obtain ⟨v1133, ev1133⟩ : ∃ y : Int32, y = x1109_5 + 1 := ⟨_, rfl⟩
                    have tv1133 := z_add ev1133 rfl (by decide : (1 : Int32).toInt = 1) (by omega) (by omega)
                    refine lv_iinc (v := v1133) (lv' := [(5, .int v1133), (3, .int x1109_3), (6, .int 0), (4, .int x1023_4), (0, .ref h), (1, .int a), (2, .int b)]) hx hb dX12_forceOf_131 hl (k := 2) rfl (by rw [ev1133]; rfl) (by decide) rfl (fun ls hl => ?_)
                    refine lv_goto (tgt := 34) hx hb dX12_forceOf_134 (by decide) ?_
                    exact ih1110 v1133 x1109_3 ⟨by omega, by omega⟩ (show SqI (fa 12 25) n3 (mY (fa 12 26) (fa 12 27) (a).toInt) (vI (fa 12 28)) (aF (a).toInt) (x1023_4 : Int32).toInt (12 * (n3 ((x1023_4 : Int32).toInt).toNat).toInt) (v1133 : Int32).toInt (x1109_3 : Int32).toInt from (by
                          have hv9 := congrArg Int32.toInt (show v1130 = fa 12 26 ((x1109_5 : Int32).toInt).toNat from ev1130)
                          exact SqI_n (j := ((x1109_5 : Int32).toInt).toNat) (c := (x1109_5 : Int32).toInt) (by omega) (by omega) (show ¬ ((a.toInt = 5 ∧ (fa 12 26 ((x1109_5 : Int32).toInt).toNat).toInt = 1) ∨ (a.toInt ≠ 5 ∧ (fa 12 26 ((x1109_5 : Int32).toInt).toNat).toInt = 0 ∧ (fa 12 27 ((x1109_5 : Int32).toInt).toNat).toInt = a.toInt)) from by omega) hq1110_0)) (show 12 * (n3 ((x1023_4 : Int32).toInt).toNat).toInt ≤ (v1133 : Int32).toInt from (by have hq9 := hq1110_1; omega)) (show (v1133 : Int32).toInt ≤ 12 * (n3 ((x1023_4 : Int32).toInt).toNat).toInt + ((fa 12 25) ((n3 ((x1023_4 : Int32).toInt).toNat).toInt).toNat).toInt from (by have hp9 : v1026 = n3 ((x1023_4 : Int32).toInt).toNat := ev1026; have hn9 := congrArg Int32.toInt (show v1114 = fa 12 25 ((v1026 : Int32).toInt).toNat from ev1114); rw [hp9] at hn9; have hp8 := congrArg Int32.toInt hp9; omega)) (by omega) _ _ ls hP hD hS (lv_sub hl [0, 3, 1, 4, 5, 6] rfl)
                  · exact absurd rfl c1132
                · have fc1131 := z_eq (rfl : (v1130).toInt = _) (by decide : (1 : Int32).toInt = 1) c1131
                  refine lv_iconst (v := 1) hx hb dX12_forceOf_78 (by decide) ?_
                  refine lv_goto (tgt := 112) hx hb dX12_forceOf_79 (by decide) ?_
                  refine lv_istore (lv' := [(6, .int 1), (5, .int x1109_5), (4, .int x1023_4), (3, .int x1109_3), (0, .ref h), (1, .int a), (2, .int b)]) hx hb dX12_forceOf_112 hl (by decide) rfl (fun ls hl => ?_)
                  refine lv_iload hx hb dX12_forceOf_114 (lv_at hl 0 rfl) ?_
                  refine lv_if_eq (tgt := 129) hx hb dX12_forceOf_116 (by decide) (fun c1134 => ?_) (fun c1134 => ?_)
                  · exact absurd c1134 (by decide)
                  · skip
                    refine lv_aload_n hx hb dX12_forceOf_119 rfl (lv_at hl 4 rfl) ?_
                    refine gM_12_28 hx hb ht hown hK hP m_1167 dX12_forceOf_120 ?_
                    refine lv_iload hx hb dX12_forceOf_123 (lv_at hl 1 rfl) ?_
                    refine lM_12_28 hx hb hK hP (f := (fa 12 28)) rfl (vp_in_iff.mpr ⟨by omega, by omega⟩) dX12_forceOf_125 ?_
                    refine lv_topi (fun v1135 ev1135 => ?_)
                    refine lv_goto (tgt := 130) hx hb dX12_forceOf_126 (by decide) ?_
                    refine lv_istore_n (lv' := [(3, .int v1135), (6, .int 1), (5, .int x1109_5), (4, .int x1023_4), (0, .ref h), (1, .int a), (2, .int b)]) hx hb dX12_forceOf_130 rfl hl (by decide) rfl (fun ls hl => ?_)
                    obtain ⟨v1136, ev1136⟩ : ∃ y : Int32, y = x1109_5 + 1 := ⟨_, rfl⟩
                    have tv1136 := z_add ev1136 rfl (by decide : (1 : Int32).toInt = 1) (by omega) (by omega)
                    refine lv_iinc (v := v1136) (lv' := [(5, .int v1136), (3, .int v1135), (6, .int 1), (4, .int x1023_4), (0, .ref h), (1, .int a), (2, .int b)]) hx hb dX12_forceOf_131 hl (k := 2) rfl (by rw [ev1136]; rfl) (by decide) rfl (fun ls hl => ?_)
                    refine lv_goto (tgt := 34) hx hb dX12_forceOf_134 (by decide) ?_
                    exact ih1110 v1136 v1135 ⟨by omega, by omega⟩ (show SqI (fa 12 25) n3 (mY (fa 12 26) (fa 12 27) (a).toInt) (vI (fa 12 28)) (aF (a).toInt) (x1023_4 : Int32).toInt (12 * (n3 ((x1023_4 : Int32).toInt).toNat).toInt) (v1136 : Int32).toInt (v1135 : Int32).toInt from (by
                          have hv9 := congrArg Int32.toInt (show v1130 = fa 12 26 ((x1109_5 : Int32).toInt).toNat from ev1130)
                          exact SqI_y (j := ((x1109_5 : Int32).toInt).toNat) (c := (x1109_5 : Int32).toInt) (by omega) (by omega) (by omega) (show ((a.toInt = 5 ∧ (fa 12 26 ((x1109_5 : Int32).toInt).toNat).toInt = 1) ∨ (a.toInt ≠ 5 ∧ (fa 12 26 ((x1109_5 : Int32).toInt).toNat).toInt = 0 ∧ (fa 12 27 ((x1109_5 : Int32).toInt).toNat).toInt = a.toInt)) from by omega) (congrArg Int32.toInt (show v1135 = fa 12 28 ((x1109_5 : Int32).toInt).toNat from ev1135)))) (show 12 * (n3 ((x1023_4 : Int32).toInt).toNat).toInt ≤ (v1136 : Int32).toInt from (by have hq9 := hq1110_1; omega)) (show (v1136 : Int32).toInt ≤ 12 * (n3 ((x1023_4 : Int32).toInt).toNat).toInt + ((fa 12 25) ((n3 ((x1023_4 : Int32).toInt).toNat).toInt).toNat).toInt from (by have hp9 : v1026 = n3 ((x1023_4 : Int32).toInt).toNat := ev1026; have hn9 := congrArg Int32.toInt (show v1114 = fa 12 25 ((v1026 : Int32).toInt).toNat from ev1114); rw [hp9] at hn9; have hp8 := congrArg Int32.toInt hp9; omega)) (by omega) _ _ ls hP hD hS (lv_sub hl [0, 3, 1, 4, 5, 6] rfl)
        exact lp1110 97 v1027 x1023_3 ⟨by omega, by omega⟩ (show SqI (fa 12 25) n3 (mY (fa 12 26) (fa 12 27) (a).toInt) (vI (fa 12 28)) (aF (a).toInt) (x1023_4 : Int32).toInt (12 * (n3 ((x1023_4 : Int32).toInt).toNat).toInt) (v1027 : Int32).toInt (x1023_3 : Int32).toInt from (by have hp9 := congrArg Int32.toInt (show v1026 = n3 ((x1023_4 : Int32).toInt).toNat from ev1026); have he9 : (v1027 : Int32).toInt = 12 * (n3 ((x1023_4 : Int32).toInt).toNat).toInt := (by omega); rw [he9]; exact SqI_0 hq1024_0)) (show 12 * (n3 ((x1023_4 : Int32).toInt).toNat).toInt ≤ (v1027 : Int32).toInt from (by have hp9 := congrArg Int32.toInt (show v1026 = n3 ((x1023_4 : Int32).toInt).toNat from ev1026); omega)) (show (v1027 : Int32).toInt ≤ 12 * (n3 ((x1023_4 : Int32).toInt).toNat).toInt + ((fa 12 25) ((n3 ((x1023_4 : Int32).toInt).toNat).toInt).toNat).toInt from (by have hp9 := congrArg Int32.toInt (show v1026 = n3 ((x1023_4 : Int32).toInt).toNat from ev1026); have hb9 : 0 ≤ (fa 12 25 ((n3 ((x1023_4 : Int32).toInt).toNat).toInt).toNat).toInt ∧ (fa 12 25 ((n3 ((x1023_4 : Int32).toInt).toNat).toInt).toNat).toInt ≤ 12 := hI.2 12 25 _; omega)) (by first | decide | omega) _ _ ls hP hD hS (lv_sub hl [0, 1, 2, 3, 4, 5] rfl)
  have : (0 : Int32).toInt = 0 := (by decide)
  exact lp1024 9 0 r5 ⟨by decide, by decide⟩ (show SqO (fa 12 25) n3 (mY (fa 12 26) (fa 12 27) (a).toInt) (vI (fa 12 28)) (aF (a).toInt) (0 : Int32).toInt (r5 : Int32).toInt from (by have hz : (0 : Int32).toInt = 0 := (by decide); rw [hz, xr5_0]; exact SqO_0)) (show (0 : Int32).toInt ≤ (n4 : Int32).toInt from by omega) (by first | decide | omega) _ _ ls hP hD hS (lv_sub hl [0, 1, 2, 3, 4] rfl)
set_option maxHeartbeats 4000000 in
set_option maxRecDepth 100000 in
/-- X12_force -/
theorem c_X12_force_f (l : Launch) (dC : Nat → ClassId) (dI : Nat → Nat → Nat) (sz : Nat) (h : Nat) (g : Nat → Nat → Nat) (ca : Nat → Nat → ClassId) (iv : Nat → Nat → Int32) (lv : Nat → Nat → Int64) (fa : Nat → Nat → Nat → Int32) (la : Nat → Nat → Nat → Int64) (hI : IX iv fa) (a : Int32) (b : Int32) (hJC : JCf (iv 12 23).toInt (fa 12 25) (fa 12 26) (fa 12 27) (fa 12 28)) (hJK : ∀ k j : Nat, (k : Int) < (iv 12 23).toInt → 12 * k ≤ j → (j : Int) < 12 * (k : Int) + (fa 12 25 k).toInt → (fa 12 26 j).toInt = 3 → 0 ≤ (fa 12 28 j).toInt ∧ (fa 12 28 j).toInt < (k : Int)) : Met l yX12_force (wc yX12_force cX12_force 3 (some .int)) ({ frames := 2, cells := 0, slots := 0, locals := 49 } : Room) (pW (dC, dI) classes (WM h g ca iv lv fa la) (TM ca) sz [.ref h, .int a, .int b]) (va_Qi (fun r (u : SS) => ∃ (na_12_39 : Nat → Int32) (na_12_40 : Nat → Int32) (ni_12_41 : Int32), (∀ j, inb (bA 12 39 j) (na_12_39 j)) ∧ (∀ j, inb (bA 12 40 j) (na_12_40 j)) ∧ inb (bI 12 41) ni_12_41 ∧ (((r.toInt = -100002 ∧ ¬ (0 ≤ a.toInt ∧ a.toInt ≤ 5 ∧ 0 ≤ b.toInt ∧ b.toInt ≤ 3000)) ∨ ((0 ≤ a.toInt ∧ a.toInt ≤ 5 ∧ 0 ≤ b.toInt ∧ b.toInt ≤ 3000) ∧ FoY (iv 12 23).toInt (fa 12 24) (fa 12 25) (fa 12 26) (fa 12 27) (fa 12 28) a.toInt b.toInt r.toInt))) ∧ (True) ∧ u = ((u2 iv 12 41 ni_12_41), lv, (u2 (u2 fa 12 39 na_12_39) 12 40 na_12_40), la)) (bM (dC, dI) h g ca (va_A (WM h g ca iv lv fa la) sz)) (va_A (WM h g ca iv lv fa la) sz)) 0 0 (va_A (WM h g ca iv lv fa la) sz) := by
  refine Met.ofW (cc := cX12_force) (maxL := 3) (ret := (some .int)) (by decide) rfl ?_
  intro p e s m args below meth c s₁ B hml hv
  obtain ⟨rfl, hsz, hP, hK, hD0⟩ := hv
  have hx := B.exec
  have hb := B.bytes
  have hr := B.returns
  have ht := tb_tl (atoms_spec (ws := wc yX12_force cX12_force 3 (some .int)) B.pre)
  have hown : s.vm.findClass RX12 = some m.cls := findClass_of_methodNamed B.named
  have hlocks := B.notSynchronized
  subst hsz
  have hD := hD0.self (sz := s.heap.size)
  generalize hAe : va_A (WM h g ca iv lv fa la) s.heap.size = A at hD ⊢
  have hA : ∀ q : Nat, s.heap.size ≤ q → A q := fun q h => by rw [← hAe]; exact Or.inr h
  have hS : va_S A s.heap s.heap [] := va_S.rf
  have hl := lv_entry [.ref h, .int a, .int b] (n := 3) (Nat.le_of_ble_eq_true rfl)
  rw [lg_entry_eq]
  generalize (lg_sl [.ref h, .int a, .int b] ++ List.replicate (3 - (lg_sl [.ref h, .int a, .int b]).length) Slot.unset).toArray = ls at hl ⊢
  have hl : lv_has ls 3 [(0, .ref h), (1, .int a), (2, .int b)] := hl
  refine lv_iload_n hx hb dX12_force_0 rfl (lv_at hl 1 rfl) ?_
  refine lv_i2l (v := (a.toInt64)) hx hb dX12_force_1 rfl ?_
  refine lv_lconst (v := 0) hx hb dX12_force_2 (by decide) ?_
  refine lv_ldc2 hx hb hown (ht _ m_1508) dX12_force_3 ?_
  refine vp_callSi (W.runS (As := [.long (a.toInt64), .long 0, .long 5]) (rest := []) ⟨hx, hb, hml, hown, ht⟩ (c_X12_in l dC dI (a.toInt64) 0 5 (a.toInt) (0) (5) ((Int32.toInt_toInt64 a).trans rfl) (by decide : (0 : Int64).toInt = 0) (by decide : (5 : Int64).toInt = 5)) (kS 3 ht m_1370 m_1371 m_89 m_1372 rfl rfl hd_X12_in_v ⟨Nat.le_of_ble_eq_true rfl, Nat.le_of_ble_eq_true rfl⟩) (sR noP (hK.sub (tys' := []) [] rfl)) rfl rfl hl.1 rfl (lv_room (Nat.le_of_ble_eq_true rfl)) dX12_force_6 ⟨Nat.le_of_ble_eq_true rfl, Nat.le_of_ble_eq_true rfl⟩) (fun r1 hr1 => ?_)
  rcases hr1 with ⟨rfl, fr1⟩ | ⟨rfl, fr1⟩
  · skip
    refine lv_if_eq (tgt := 28) hx hb dX12_force_9 (by decide) (fun c2 => ?_) (fun c2 => ?_)
    · exact absurd c2 (by decide)
    · skip
      refine lv_iload_n hx hb dX12_force_12 rfl (lv_at hl 2 rfl) ?_
      refine vp_callSi (W.runS (As := [.int b]) (rest := []) ⟨hx, hb, hml, hown, ht⟩ (c_X12_isDay l dC dI b) (kS 1 ht m_1422 m_1423 m_89 m_1424 rfl rfl hd_X12_isDay_v ⟨Nat.le_of_ble_eq_true rfl, Nat.le_of_ble_eq_true rfl⟩) (sR noP (hK.sub (tys' := []) [] rfl)) rfl rfl hl.1 rfl (lv_room (Nat.le_of_ble_eq_true rfl)) dX12_force_13 ⟨Nat.le_of_ble_eq_true rfl, Nat.le_of_ble_eq_true rfl⟩) (fun r3 hr3 => ?_)
      rcases hr3 with ⟨rfl, fr3⟩ | ⟨rfl, fr3⟩
      · skip
        refine lv_if_eq (tgt := 28) hx hb dX12_force_16 (by decide) (fun c4 => ?_) (fun c4 => ?_)
        · exact absurd c4 (by decide)
        · skip
          refine lv_aload_n hx hb dX12_force_19 rfl (lv_at hl 0 rfl) ?_
          refine lv_iload_n hx hb dX12_force_20 rfl (lv_at hl 1 rfl) ?_
          refine lv_iload_n hx hb dX12_force_21 rfl (lv_at hl 2 rfl) ?_
          have hFc := free_all hD hS hA
          refine va_calli (va_runV (As := [.int a, .int b]) (rest := []) ⟨hx, hb, hml, hown, ht⟩ (c_X12_forceOf_f l dC dI s.heap.size h g ca iv lv fa la hI a b ⟨by omega, by omega⟩ hJC hJK) (kV 2 ht m_1509 m_1511 m_55 m_89 m_1512 rfl rfl hd_X12_forceOf_v ⟨Nat.le_of_ble_eq_true rfl, Nat.le_of_ble_eq_true rfl⟩) (vW hP hK hD (rM_12 hK hP)) rfl rfl hl.1 rfl (lv_room (Nat.le_of_ble_eq_true rfl)) dX12_force_22 ⟨Nat.le_of_ble_eq_true rfl, Nat.le_of_ble_eq_true rfl⟩) hS (fun q _ h => hFc q h) hFc (fun r5 u t H1 locs ht9 hvm hr5 hB hz1 hk1 hS => ?_)
          obtain ⟨n6, n7, n8, hn6, hn7, hn8, xr5_0, hr5, rfl⟩ := hr5
          have hn8 : 0 ≤ n8.toInt ∧ n8.toInt ≤ 8 := hn8
          obtain ⟨hP, hD⟩ := hB
          rw [ht9] at hP
          generalize H1 = H at hP hS ⊢
          have hP : va_P (dC, dI) classes (WM h g ca (u2 iv 12 41 n8) lv (u2 (u2 fa 12 39 n6) 12 40 n7) la) H := hP
          have hD : va_D A (WM h g ca (u2 iv 12 41 n8) lv (u2 (u2 fa 12 39 n6) 12 40 n7) la) := (show va_D _ (WM h g ca (u2 iv 12 41 n8) lv (u2 (u2 fa 12 39 n6) 12 40 n7) la) from hD).weaken (fun _ _ _ h => hFc _ h)
          have i_12_23 : 0 ≤ (iv 12 23).toInt ∧ (iv 12 23).toInt ≤ 8 := hI.1 12 23
          have xr5_0 : FoY ((iv 12 23) : Int32).toInt (fa 12 24) (fa 12 25) (fa 12 26) (fa 12 27) (fa 12 28) (a : Int32).toInt (b : Int32).toInt (r5 : Int32).toInt := xr5_0
          refine lv_goto (tgt := 30) hx hb dX12_force_25 (by decide) ?_
          have hP9 : va_P (dC, dI) classes (WM h g ca (u2 iv 12 41 n8) lv (u2 (u2 fa 12 39 n6) 12 40 n7) la) H := hP
          have hD9 : va_D A (WM h g ca (u2 iv 12 41 n8) lv (u2 (u2 fa 12 39 n6) 12 40 n7) la) := hD
          exact W.iret (v := r5) hx hb hr (fun t ht9 hW => ⟨⟨r5, ((u2 iv 12 41 n8), lv, (u2 (u2 fa 12 39 n6) 12 40 n7), la), rfl, ⟨n6, n7, n8, hn6, hn7, (show inb (0, 8) n8 from ⟨by omega, by omega⟩), (show (((r5 : Int32).toInt = -100002 ∧ ¬ (0 ≤ (a).toInt ∧ (a).toInt ≤ 5 ∧ 0 ≤ (b).toInt ∧ (b).toInt ≤ 3000)) ∨ ((0 ≤ (a).toInt ∧ (a).toInt ≤ 5 ∧ 0 ≤ (b).toInt ∧ (b).toInt ≤ 3000) ∧ FoY (iv 12 23).toInt (fa 12 24) (fa 12 25) (fa 12 26) (fa 12 27) (fa 12 28) (a).toInt (b).toInt (r5 : Int32).toInt)) from Or.inr ⟨⟨by omega, by omega, by omega, by omega⟩, xr5_0⟩), trivial, rfl⟩, by rw [ht9]; exact hP9, hD9⟩, hS.F ht9⟩) hS.2.2 dX12_force_30
      · skip
        refine lv_if_eq (tgt := 28) hx hb dX12_force_16 (by decide) (fun c9 => ?_) (fun c9 => ?_)
        · skip
          refine lv_ldc hx hb hown (ht _ m_1373) dX12_force_28 ?_
          have : ((-100002) : Int32).toInt = (-100002) := (by decide)
          have hP9 : va_P (dC, dI) classes (WM h g ca (u2 iv 12 41 (iv 12 41)) lv (u2 (u2 fa 12 39 (fa 12 39)) 12 40 (fa 12 40)) la) s.heap := hP
          have hD9 : va_D A (WM h g ca (u2 iv 12 41 (iv 12 41)) lv (u2 (u2 fa 12 39 (fa 12 39)) 12 40 (fa 12 40)) la) := hD
          exact W.iret (v := (-100002)) hx hb hr (fun t ht9 hW => ⟨⟨(-100002), ((u2 iv 12 41 (iv 12 41)), lv, (u2 (u2 fa 12 39 (fa 12 39)) 12 40 (fa 12 40)), la), rfl, ⟨(fa 12 39), (fa 12 40), (iv 12 41), (hI.2 12 39), (hI.2 12 40), (hI.1 12 41), (show ((((-100002) : Int32).toInt = -100002 ∧ ¬ (0 ≤ (a).toInt ∧ (a).toInt ≤ 5 ∧ 0 ≤ (b).toInt ∧ (b).toInt ≤ 3000)) ∨ ((0 ≤ (a).toInt ∧ (a).toInt ≤ 5 ∧ 0 ≤ (b).toInt ∧ (b).toInt ≤ 3000) ∧ FoY (iv 12 23).toInt (fa 12 24) (fa 12 25) (fa 12 26) (fa 12 27) (fa 12 28) (a).toInt (b).toInt ((-100002) : Int32).toInt)) from Or.inl ⟨by omega, by omega⟩), trivial, rfl⟩, by rw [ht9]; exact hP9, hD9⟩, hS.F ht9⟩) hS.2.2 dX12_force_30
        · exact absurd rfl c9
  · skip
    refine lv_if_eq (tgt := 28) hx hb dX12_force_9 (by decide) (fun c10 => ?_) (fun c10 => ?_)
    · skip
      refine lv_ldc hx hb hown (ht _ m_1373) dX12_force_28 ?_
      have : ((-100002) : Int32).toInt = (-100002) := (by decide)
      have hP9 : va_P (dC, dI) classes (WM h g ca (u2 iv 12 41 (iv 12 41)) lv (u2 (u2 fa 12 39 (fa 12 39)) 12 40 (fa 12 40)) la) s.heap := hP
      have hD9 : va_D A (WM h g ca (u2 iv 12 41 (iv 12 41)) lv (u2 (u2 fa 12 39 (fa 12 39)) 12 40 (fa 12 40)) la) := hD
      exact W.iret (v := (-100002)) hx hb hr (fun t ht9 hW => ⟨⟨(-100002), ((u2 iv 12 41 (iv 12 41)), lv, (u2 (u2 fa 12 39 (fa 12 39)) 12 40 (fa 12 40)), la), rfl, ⟨(fa 12 39), (fa 12 40), (iv 12 41), (hI.2 12 39), (hI.2 12 40), (hI.1 12 41), (show ((((-100002) : Int32).toInt = -100002 ∧ ¬ (0 ≤ (a).toInt ∧ (a).toInt ≤ 5 ∧ 0 ≤ (b).toInt ∧ (b).toInt ≤ 3000)) ∨ ((0 ≤ (a).toInt ∧ (a).toInt ≤ 5 ∧ 0 ≤ (b).toInt ∧ (b).toInt ≤ 3000) ∧ FoY (iv 12 23).toInt (fa 12 24) (fa 12 25) (fa 12 26) (fa 12 27) (fa 12 28) (a).toInt (b).toInt ((-100002) : Int32).toInt)) from Or.inl ⟨by omega, by omega⟩), trivial, rfl⟩, by rw [ht9]; exact hP9, hD9⟩, hS.F ht9⟩) hS.2.2 dX12_force_30
    · exact absurd rfl c10
/-! ===== sm0 ===== -/

/-- sums and numbers of those that count -/
noncomputable def smL (c : Nat → Prop) (w : Nat → Int32) : Nat → Int64
  | 0 => 0
  | n + 1 => @ite Int64 (c n) (Classical.propDecidable _) (smL c w n + (w n).toInt64) (smL c w n)
noncomputable def smC (c : Nat → Prop) : Nat → Int32
  | 0 => 0
  | n + 1 => @ite Int32 (c n) (Classical.propDecidable _) (smC c n + 1) (smC c n)
theorem smL_y {c : Nat → Prop} {w : Nat → Int32} {n n' : Nat} (h : n' = n + 1) (hc : c n) : smL c w n' = smL c w n + (w n).toInt64 := by
  rw [h]; exact if_pos hc
theorem smL_n {c : Nat → Prop} {w : Nat → Int32} {n n' : Nat} (h : n' = n + 1) (hc : ¬ c n) : smL c w n' = smL c w n := by
  rw [h]; exact if_neg hc
theorem smC_y {c : Nat → Prop} {n n' : Nat} (h : n' = n + 1) (hc : c n) : smC c n' = smC c n + 1 := by
  rw [h]; exact if_pos hc
theorem smC_n {c : Nat → Prop} {n n' : Nat} (h : n' = n + 1) (hc : ¬ c n) : smC c n' = smC c n := by
  rw [h]; exact if_neg hc
theorem smL_cg {c c' : Nat → Prop} {w w' : Nat → Int32} : ∀ n : Nat, (∀ j : Nat, j < n → (c j ↔ c' j) ∧ w j = w' j) → smL c w n = smL c' w' n
  | 0, _ => rfl
  | n + 1, h => by
    have q := h n (Nat.lt_succ_self n)
    have r := smL_cg n (fun j hj => h j (Nat.lt_succ_of_lt hj))
    by_cases e : c n
    · rw [smL_y rfl e, smL_y rfl (q.1.mp e), r, q.2]
    · rw [smL_n rfl e, smL_n rfl (fun z => e (q.1.mpr z)), r]
theorem smC_cg {c c' : Nat → Prop} : ∀ n : Nat, (∀ j : Nat, j < n → (c j ↔ c' j)) → smC c n = smC c' n
  | 0, _ => rfl
  | n + 1, h => by
    have q := h n (Nat.lt_succ_self n)
    have r := smC_cg n (fun j hj => h j (Nat.lt_succ_of_lt hj))
    by_cases e : c n
    · rw [smC_y rfl e, smC_y rfl (q.mp e), r]
    · rw [smC_n rfl e, smC_n rfl (fun z => e (q.mpr z)), r]
/-- what the sums may be -/
theorem smL_b {c : Nat → Prop} {w : Nat → Int32} {lo hi : Int} (h0 : 0 ≤ lo) (h1 : lo ≤ hi) (h2 : hi ≤ 9999) : ∀ n : Nat, n ≤ 60 → (∀ j : Nat, j < n → lo ≤ (w j).toInt ∧ (w j).toInt ≤ hi) → lo * (smC c n).toInt ≤ (smL c w n).toInt ∧ (smL c w n).toInt ≤ hi * (smC c n).toInt ∧ 0 ≤ (smC c n).toInt ∧ (smC c n).toInt ≤ (n : Int)
  | 0, _, _ => by
    have e1 : (smL c w 0).toInt = 0 := by show (0 : Int64).toInt = 0; decide
    have e2 : (smC c 0).toInt = 0 := by show (0 : Int32).toInt = 0; decide
    rw [e1, e2]; exact ⟨by omega, by omega, by omega, by omega⟩
  | n + 1, hn, h => by
    obtain ⟨q1, q2, q3, q4⟩ := smL_b (c := c) h0 h1 h2 n (by omega) (fun j hj => h j (by omega))
    have z := h n (by omega)
    by_cases e : c n
    · have a1 : (smC c (n + 1)).toInt = (smC c n).toInt + 1 := by
        rw [smC_y rfl e]; exact z_add rfl rfl (by decide : (1 : Int32).toInt = 1) (by omega) (by omega)
      have m0 : hi * (smC c n).toInt ≤ 9999 * 60 := Int.mul_le_mul h2 (by omega) q3 (by decide)
      have m1 : 0 ≤ lo * (smC c n).toInt := Int.mul_nonneg h0 q3
      have a2 : (smL c w (n + 1)).toInt = (smL c w n).toInt + (w n).toInt := by
        rw [smL_y rfl e]; exact l_add rfl rfl (Int32.toInt_toInt64 _) (by omega) (by omega)
      rw [a1, a2, Int.mul_add, Int.mul_add]
      exact ⟨by omega, by omega, by omega, by omega⟩
    · rw [smL_n rfl e, smC_n rfl e]; exact ⟨q1, q2, q3, by omega⟩
/-! ===== sm1 ===== -/
set_option maxHeartbeats 4000000 in
set_option maxRecDepth 100000 in
/-- X10_get -/
theorem c_X10_get_x3 (l : Launch) (dC : Nat → ClassId) (dI : Nat → Nat → Nat) (h : Nat) (g : Nat → Nat → Nat) (ca : Nat → Nat → ClassId) (iv : Nat → Nat → Int32) (lv : Nat → Nat → Int64) (fa : Nat → Nat → Nat → Int32) (la : Nat → Nat → Nat → Int64) (hI : IX iv fa) (a : Int32) (h_a : 0 ≤ a.toInt ∧ a.toInt ≤ 59) : Met l yX10_get (wc yX10_get cX10_get 3 (some .int)) ({ frames := 0, cells := 0, slots := 0, locals := 0 } : Room) (pR (dC, dI) classes (WX h g ca iv lv fa la) (TX ca) [.ref (g 11 0), .int a, .int 3]) (vp_Si (fun r => (True) ∧ (r.toInt = ((fa 10 0) (9 * (a.toInt).toNat + 3)).toInt))) 0 0 (fun _ => False) := by
  refine Met.ofW (cc := cX10_get) (maxL := 3) (ret := (some .int)) (by decide) rfl ?_
  intro p e s m args below meth c s₁ B hml hv
  obtain ⟨rfl, hP, hK⟩ := hv
  have hx := B.exec
  have hb := B.bytes
  have hr := B.returns
  have ht := tb_tl (atoms_spec (ws := wc yX10_get cX10_get 3 (some .int)) B.pre)
  have hown : s.vm.findClass RX10 = some m.cls := findClass_of_methodNamed B.named
  have hlocks := B.notSynchronized
  have hl := lv_entry [.ref (g 11 0), .int a, .int 3] (n := 3) (Nat.le_of_ble_eq_true rfl)
  rw [lg_entry_eq]
  generalize (lg_sl [.ref (g 11 0), .int a, .int 3] ++ List.replicate (3 - (lg_sl [.ref (g 11 0), .int a, .int 3]).length) Slot.unset).toArray = ls at hl ⊢
  have hl : lv_has ls 3 [(0, .ref (g 11 0)), (1, .int a), (2, .int 3)] := hl
  refine lv_aload_n hx hb dX10_get_0 rfl (lv_at hl 0 rfl) ?_
  refine gX_10_0 hx hb ht hown hK hP m_111 dX10_get_1 ?_
  refine lv_iload_n hx hb dX10_get_4 rfl (lv_at hl 1 rfl) ?_
  refine lv_bipush (v := 9) hx hb dX10_get_5 (by decide) ?_
  refine lv_imul hx hb dX10_get_7 ?_
  refine lv_topi (fun v1 ev1 => ?_)
  have tv1 := z_mul ev1 (rfl : (a).toInt = _) (by decide : (9 : Int32).toInt = 9) (by omega) (by omega)
  refine lv_iload_n hx hb dX10_get_8 rfl (lv_at hl 2 rfl) ?_
  refine lv_iadd hx hb dX10_get_9 ?_
  refine lv_topi (fun v2 ev2 => ?_)
  have tv2 := z_add ev2 (rfl : (v1).toInt = _) (by decide : (3 : Int32).toInt = 3) (by omega) (by omega)
  refine lX_10_0 hx hb hK hP (f := (fa 10 0)) rfl (vp_in_iff.mpr ⟨by omega, by omega⟩) dX10_get_10 ?_
  refine lv_topi (fun v3 ev3 => ?_)
  exact W.iret (v := v3) hx hb hr (fun t ht9 hW => ⟨v3, rfl, ⟨trivial, (show (v3 : Int32).toInt = ((fa 10 0) (9 * ((a).toInt).toNat + 3)).toInt from (by have h1 := congrArg Int32.toInt ev3; have h2 : (v2 : Int32).toNatClampNeg = 9 * (a.toInt).toNat + 3 := (by show (v2 : Int32).toInt.toNat = _; omega); rw [h2] at h1; exact h1))⟩, ht9⟩) (fun q hq => by cases hq) dX10_get_11
set_option maxHeartbeats 4000000 in
set_option maxRecDepth 100000 in
/-- X10_get -/
theorem c_X10_get_x4 (l : Launch) (dC : Nat → ClassId) (dI : Nat → Nat → Nat) (h : Nat) (g : Nat → Nat → Nat) (ca : Nat → Nat → ClassId) (iv : Nat → Nat → Int32) (lv : Nat → Nat → Int64) (fa : Nat → Nat → Nat → Int32) (la : Nat → Nat → Nat → Int64) (hI : IX iv fa) (a : Int32) (h_a : 0 ≤ a.toInt ∧ a.toInt ≤ 59) : Met l yX10_get (wc yX10_get cX10_get 3 (some .int)) ({ frames := 0, cells := 0, slots := 0, locals := 0 } : Room) (pR (dC, dI) classes (WX h g ca iv lv fa la) (TX ca) [.ref (g 11 0), .int a, .int 4]) (vp_Si (fun r => (True) ∧ (r.toInt = ((fa 10 0) (9 * (a.toInt).toNat + 4)).toInt))) 0 0 (fun _ => False) := by
  refine Met.ofW (cc := cX10_get) (maxL := 3) (ret := (some .int)) (by decide) rfl ?_
  intro p e s m args below meth c s₁ B hml hv
  obtain ⟨rfl, hP, hK⟩ := hv
  have hx := B.exec
  have hb := B.bytes
  have hr := B.returns
  have ht := tb_tl (atoms_spec (ws := wc yX10_get cX10_get 3 (some .int)) B.pre)
  have hown : s.vm.findClass RX10 = some m.cls := findClass_of_methodNamed B.named
  have hlocks := B.notSynchronized
  have hl := lv_entry [.ref (g 11 0), .int a, .int 4] (n := 3) (Nat.le_of_ble_eq_true rfl)
  rw [lg_entry_eq]
  generalize (lg_sl [.ref (g 11 0), .int a, .int 4] ++ List.replicate (3 - (lg_sl [.ref (g 11 0), .int a, .int 4]).length) Slot.unset).toArray = ls at hl ⊢
  have hl : lv_has ls 3 [(0, .ref (g 11 0)), (1, .int a), (2, .int 4)] := hl
  refine lv_aload_n hx hb dX10_get_0 rfl (lv_at hl 0 rfl) ?_
  refine gX_10_0 hx hb ht hown hK hP m_111 dX10_get_1 ?_
  refine lv_iload_n hx hb dX10_get_4 rfl (lv_at hl 1 rfl) ?_
  refine lv_bipush (v := 9) hx hb dX10_get_5 (by decide) ?_
  refine lv_imul hx hb dX10_get_7 ?_
  refine lv_topi (fun v1 ev1 => ?_)
  have tv1 := z_mul ev1 (rfl : (a).toInt = _) (by decide : (9 : Int32).toInt = 9) (by omega) (by omega)
  refine lv_iload_n hx hb dX10_get_8 rfl (lv_at hl 2 rfl) ?_
  refine lv_iadd hx hb dX10_get_9 ?_
  refine lv_topi (fun v2 ev2 => ?_)
  have tv2 := z_add ev2 (rfl : (v1).toInt = _) (by decide : (4 : Int32).toInt = 4) (by omega) (by omega)
  refine lX_10_0 hx hb hK hP (f := (fa 10 0)) rfl (vp_in_iff.mpr ⟨by omega, by omega⟩) dX10_get_10 ?_
  refine lv_topi (fun v3 ev3 => ?_)
  exact W.iret (v := v3) hx hb hr (fun t ht9 hW => ⟨v3, rfl, ⟨trivial, (show (v3 : Int32).toInt = ((fa 10 0) (9 * ((a).toInt).toNat + 4)).toInt from (by have h1 := congrArg Int32.toInt ev3; have h2 : (v2 : Int32).toNatClampNeg = 9 * (a.toInt).toNat + 4 := (by show (v2 : Int32).toInt.toNat = _; omega); rw [h2] at h1; exact h1))⟩, ht9⟩) (fun q hq => by cases hq) dX10_get_11
set_option maxHeartbeats 4000000 in
set_option maxRecDepth 100000 in
/-- X10_get -/
theorem c_X10_get_x7 (l : Launch) (dC : Nat → ClassId) (dI : Nat → Nat → Nat) (h : Nat) (g : Nat → Nat → Nat) (ca : Nat → Nat → ClassId) (iv : Nat → Nat → Int32) (lv : Nat → Nat → Int64) (fa : Nat → Nat → Nat → Int32) (la : Nat → Nat → Nat → Int64) (hI : IX iv fa) (a : Int32) (h_a : 0 ≤ a.toInt ∧ a.toInt ≤ 59) : Met l yX10_get (wc yX10_get cX10_get 3 (some .int)) ({ frames := 0, cells := 0, slots := 0, locals := 0 } : Room) (pR (dC, dI) classes (WX h g ca iv lv fa la) (TX ca) [.ref (g 11 0), .int a, .int 7]) (vp_Si (fun r => (True) ∧ (r.toInt = ((fa 10 0) (9 * (a.toInt).toNat + 7)).toInt))) 0 0 (fun _ => False) := by
  refine Met.ofW (cc := cX10_get) (maxL := 3) (ret := (some .int)) (by decide) rfl ?_
  intro p e s m args below meth c s₁ B hml hv
  obtain ⟨rfl, hP, hK⟩ := hv
  have hx := B.exec
  have hb := B.bytes
  have hr := B.returns
  have ht := tb_tl (atoms_spec (ws := wc yX10_get cX10_get 3 (some .int)) B.pre)
  have hown : s.vm.findClass RX10 = some m.cls := findClass_of_methodNamed B.named
  have hlocks := B.notSynchronized
  have hl := lv_entry [.ref (g 11 0), .int a, .int 7] (n := 3) (Nat.le_of_ble_eq_true rfl)
  rw [lg_entry_eq]
  generalize (lg_sl [.ref (g 11 0), .int a, .int 7] ++ List.replicate (3 - (lg_sl [.ref (g 11 0), .int a, .int 7]).length) Slot.unset).toArray = ls at hl ⊢
  have hl : lv_has ls 3 [(0, .ref (g 11 0)), (1, .int a), (2, .int 7)] := hl
  refine lv_aload_n hx hb dX10_get_0 rfl (lv_at hl 0 rfl) ?_
  refine gX_10_0 hx hb ht hown hK hP m_111 dX10_get_1 ?_
  refine lv_iload_n hx hb dX10_get_4 rfl (lv_at hl 1 rfl) ?_
  refine lv_bipush (v := 9) hx hb dX10_get_5 (by decide) ?_
  refine lv_imul hx hb dX10_get_7 ?_
  refine lv_topi (fun v1 ev1 => ?_)
  have tv1 := z_mul ev1 (rfl : (a).toInt = _) (by decide : (9 : Int32).toInt = 9) (by omega) (by omega)
  refine lv_iload_n hx hb dX10_get_8 rfl (lv_at hl 2 rfl) ?_
  refine lv_iadd hx hb dX10_get_9 ?_
  refine lv_topi (fun v2 ev2 => ?_)
  have tv2 := z_add ev2 (rfl : (v1).toInt = _) (by decide : (7 : Int32).toInt = 7) (by omega) (by omega)
  refine lX_10_0 hx hb hK hP (f := (fa 10 0)) rfl (vp_in_iff.mpr ⟨by omega, by omega⟩) dX10_get_10 ?_
  refine lv_topi (fun v3 ev3 => ?_)
  exact W.iret (v := v3) hx hb hr (fun t ht9 hW => ⟨v3, rfl, ⟨trivial, (show (v3 : Int32).toInt = ((fa 10 0) (9 * ((a).toInt).toNat + 7)).toInt from (by have h1 := congrArg Int32.toInt ev3; have h2 : (v2 : Int32).toNatClampNeg = 9 * (a.toInt).toNat + 7 := (by show (v2 : Int32).toInt.toNat = _; omega); rw [h2] at h1; exact h1))⟩, ht9⟩) (fun q hq => by cases hq) dX10_get_11
set_option maxHeartbeats 4000000 in
set_option maxRecDepth 100000 in
/-- X10_counts -/
theorem c_X10_counts_x (l : Launch) (dC : Nat → ClassId) (dI : Nat → Nat → Nat) (h : Nat) (g : Nat → Nat → Nat) (ca : Nat → Nat → ClassId) (iv : Nat → Nat → Int32) (lv : Nat → Nat → Int64) (fa : Nat → Nat → Nat → Int32) (la : Nat → Nat → Nat → Int64) (hI : IX iv fa) (a : Int32) (b : Int32) (h_a : 0 ≤ a.toInt ∧ a.toInt ≤ 59) : Met l yX10_counts (wc yX10_counts cX10_counts 3 (some .boolean)) ({ frames := 1, cells := 0, slots := 0, locals := 22 } : Room) (pR (dC, dI) classes (WX h g ca iv lv fa la) (TX ca) [.ref (g 11 0), .int a, .int b]) (vp_Si (fun r => (0 ≤ r.toInt ∧ r.toInt ≤ 1) ∧ (((r.toInt = 1 ∧ ((fa 10 0) (9 * (a.toInt).toNat + 7)).toInt ≤ b.toInt ∧ (((fa 10 0) (9 * (a.toInt).toNat + 8)).toInt = -1 ∨ b.toInt < ((fa 10 0) (9 * (a.toInt).toNat + 8)).toInt)) ∨ (r.toInt = 0 ∧ ¬ (((fa 10 0) (9 * (a.toInt).toNat + 7)).toInt ≤ b.toInt ∧ (((fa 10 0) (9 * (a.toInt).toNat + 8)).toInt = -1 ∨ b.toInt < ((fa 10 0) (9 * (a.toInt).toNat + 8)).toInt))))))) 0 0 (fun _ => False) := by
  refine Met.ofW (cc := cX10_counts) (maxL := 3) (ret := (some .boolean)) (by decide) rfl ?_
  intro p e s m args below meth c s₁ B hml hv
  obtain ⟨rfl, hP, hK⟩ := hv
  have hx := B.exec
  have hb := B.bytes
  have hr := B.returns
  have ht := tb_tl (atoms_spec (ws := wc yX10_counts cX10_counts 3 (some .boolean)) B.pre)
  have hown : s.vm.findClass RX10 = some m.cls := findClass_of_methodNamed B.named
  have hlocks := B.notSynchronized
  have hl := lv_entry [.ref (g 11 0), .int a, .int b] (n := 3) (Nat.le_of_ble_eq_true rfl)
  rw [lg_entry_eq]
  generalize (lg_sl [.ref (g 11 0), .int a, .int b] ++ List.replicate (3 - (lg_sl [.ref (g 11 0), .int a, .int b]).length) Slot.unset).toArray = ls at hl ⊢
  have hl : lv_has ls 3 [(0, .ref (g 11 0)), (1, .int a), (2, .int b)] := hl
  refine lv_aload_n hx hb dX10_counts_0 rfl (lv_at hl 0 rfl) ?_
  refine lv_iload_n hx hb dX10_counts_1 rfl (lv_at hl 1 rfl) ?_
  refine lv_bipush (v := 7) hx hb dX10_counts_2 (by decide) ?_
  refine vp_callSi (W.runV (As := [.int a, .int 7]) (rest := []) ⟨hx, hb, hml, hown, ht⟩ (c_X10_get_x7 l dC dI h g ca iv lv fa la hI a ⟨by omega, by omega⟩) (kV 2 ht m_485 m_486 m_487 m_78 m_488 rfl rfl hd_X10_get_v ⟨Nat.le_of_ble_eq_true rfl, Nat.le_of_ble_eq_true rfl⟩) (vR hP hK (rX_10 hK hP)) rfl rfl hl.1 rfl (lv_room (Nat.le_of_ble_eq_true rfl)) dX10_counts_4 ⟨Nat.le_of_ble_eq_true rfl, Nat.le_of_ble_eq_true rfl⟩) (fun r1 hr1 => ?_)
  obtain ⟨hr1, xr1_0⟩ := hr1
  have xr1_0 : (r1 : Int32).toInt = ((fa 10 0) (9 * ((a : Int32).toInt).toNat + 7)).toInt := xr1_0
  refine lv_iload_n hx hb dX10_counts_7 rfl (lv_at hl 2 rfl) ?_
  refine lv_icmp_gt (tgt := 37) hx hb dX10_counts_8 (by decide) (fun c2 => ?_) (fun c2 => ?_)
  · have fc2 := z_lt (rfl : (b).toInt = _) (rfl : (r1).toInt = _) c2
    refine lv_iconst (v := 0) hx hb dX10_counts_37 (by decide) ?_
    have : (0 : Int32).toInt = 0 := (by decide)
    exact W.zret (v := 0) hx hb hr rfl (fun t ht9 hW => ⟨0, rfl, ⟨⟨by decide, by decide⟩, (show (((0 : Int32).toInt = 1 ∧ ((fa 10 0) (9 * ((a).toInt).toNat + 7)).toInt ≤ (b).toInt ∧ (((fa 10 0) (9 * ((a).toInt).toNat + 8)).toInt = -1 ∨ (b).toInt < ((fa 10 0) (9 * ((a).toInt).toNat + 8)).toInt)) ∨ ((0 : Int32).toInt = 0 ∧ ¬ (((fa 10 0) (9 * ((a).toInt).toNat + 7)).toInt ≤ (b).toInt ∧ (((fa 10 0) (9 * ((a).toInt).toNat + 8)).toInt = -1 ∨ (b).toInt < ((fa 10 0) (9 * ((a).toInt).toNat + 8)).toInt)))) from by omega)⟩, ht9⟩) (fun q hq => by cases hq) dX10_counts_38
  · have fc2 := z_nlt (rfl : (b).toInt = _) (rfl : (r1).toInt = _) c2
    refine lv_aload_n hx hb dX10_counts_11 rfl (lv_at hl 0 rfl) ?_
    refine lv_iload_n hx hb dX10_counts_12 rfl (lv_at hl 1 rfl) ?_
    refine lv_bipush (v := 8) hx hb dX10_counts_13 (by decide) ?_
    refine vp_callSi (W.runV (As := [.int a, .int 8]) (rest := []) ⟨hx, hb, hml, hown, ht⟩ (c_X10_get_x8 l dC dI h g ca iv lv fa la hI a ⟨by omega, by omega⟩) (kV 2 ht m_485 m_486 m_487 m_78 m_488 rfl rfl hd_X10_get_v ⟨Nat.le_of_ble_eq_true rfl, Nat.le_of_ble_eq_true rfl⟩) (vR hP hK (rX_10 hK hP)) rfl rfl hl.1 rfl (lv_room (Nat.le_of_ble_eq_true rfl)) dX10_counts_15 ⟨Nat.le_of_ble_eq_true rfl, Nat.le_of_ble_eq_true rfl⟩) (fun r3 hr3 => ?_)
    obtain ⟨hr3, xr3_0⟩ := hr3
    have xr3_0 : (r3 : Int32).toInt = ((fa 10 0) (9 * ((a : Int32).toInt).toNat + 8)).toInt := xr3_0
    refine lv_iconst (v := (-1)) hx hb dX10_counts_18 (by decide) ?_
    refine lv_icmp_eq (tgt := 33) hx hb dX10_counts_19 (by decide) (fun c4 => ?_) (fun c4 => ?_)
    · have fc4 := z_eq (rfl : (r3).toInt = _) (by decide : ((-1) : Int32).toInt = (-1)) c4
      refine lv_iconst (v := 1) hx hb dX10_counts_33 (by decide) ?_
      refine lv_goto (tgt := 38) hx hb dX10_counts_34 (by decide) ?_
      have : (1 : Int32).toInt = 1 := (by decide)
      exact W.zret (v := 1) hx hb hr rfl (fun t ht9 hW => ⟨1, rfl, ⟨⟨by decide, by decide⟩, (show (((1 : Int32).toInt = 1 ∧ ((fa 10 0) (9 * ((a).toInt).toNat + 7)).toInt ≤ (b).toInt ∧ (((fa 10 0) (9 * ((a).toInt).toNat + 8)).toInt = -1 ∨ (b).toInt < ((fa 10 0) (9 * ((a).toInt).toNat + 8)).toInt)) ∨ ((1 : Int32).toInt = 0 ∧ ¬ (((fa 10 0) (9 * ((a).toInt).toNat + 7)).toInt ≤ (b).toInt ∧ (((fa 10 0) (9 * ((a).toInt).toNat + 8)).toInt = -1 ∨ (b).toInt < ((fa 10 0) (9 * ((a).toInt).toNat + 8)).toInt)))) from by omega)⟩, ht9⟩) (fun q hq => by cases hq) dX10_counts_38
    · have fc4 := z_ne (rfl : (r3).toInt = _) (by decide : ((-1) : Int32).toInt = (-1)) c4
      refine lv_aload_n hx hb dX10_counts_22 rfl (lv_at hl 0 rfl) ?_
      refine lv_iload_n hx hb dX10_counts_23 rfl (lv_at hl 1 rfl) ?_
      refine lv_bipush (v := 8) hx hb dX10_counts_24 (by decide) ?_
      refine vp_callSi (W.runV (As := [.int a, .int 8]) (rest := []) ⟨hx, hb, hml, hown, ht⟩ (c_X10_get_x8 l dC dI h g ca iv lv fa la hI a ⟨by omega, by omega⟩) (kV 2 ht m_485 m_486 m_487 m_78 m_488 rfl rfl hd_X10_get_v ⟨Nat.le_of_ble_eq_true rfl, Nat.le_of_ble_eq_true rfl⟩) (vR hP hK (rX_10 hK hP)) rfl rfl hl.1 rfl (lv_room (Nat.le_of_ble_eq_true rfl)) dX10_counts_26 ⟨Nat.le_of_ble_eq_true rfl, Nat.le_of_ble_eq_true rfl⟩) (fun r5 hr5 => ?_)
      obtain ⟨hr5, xr5_0⟩ := hr5
      have xr5_0 : (r5 : Int32).toInt = ((fa 10 0) (9 * ((a : Int32).toInt).toNat + 8)).toInt := xr5_0
      refine lv_iload_n hx hb dX10_counts_29 rfl (lv_at hl 2 rfl) ?_
      refine lv_icmp_le (tgt := 37) hx hb dX10_counts_30 (by decide) (fun c6 => ?_) (fun c6 => ?_)
      · have fc6 := z_le (rfl : (r5).toInt = _) (rfl : (b).toInt = _) c6
        refine lv_iconst (v := 0) hx hb dX10_counts_37 (by decide) ?_
        have : (0 : Int32).toInt = 0 := (by decide)
        exact W.zret (v := 0) hx hb hr rfl (fun t ht9 hW => ⟨0, rfl, ⟨⟨by decide, by decide⟩, (show (((0 : Int32).toInt = 1 ∧ ((fa 10 0) (9 * ((a).toInt).toNat + 7)).toInt ≤ (b).toInt ∧ (((fa 10 0) (9 * ((a).toInt).toNat + 8)).toInt = -1 ∨ (b).toInt < ((fa 10 0) (9 * ((a).toInt).toNat + 8)).toInt)) ∨ ((0 : Int32).toInt = 0 ∧ ¬ (((fa 10 0) (9 * ((a).toInt).toNat + 7)).toInt ≤ (b).toInt ∧ (((fa 10 0) (9 * ((a).toInt).toNat + 8)).toInt = -1 ∨ (b).toInt < ((fa 10 0) (9 * ((a).toInt).toNat + 8)).toInt)))) from by omega)⟩, ht9⟩) (fun q hq => by cases hq) dX10_counts_38
      · have fc6 := z_nle (rfl : (r5).toInt = _) (rfl : (b).toInt = _) c6
        refine lv_iconst (v := 1) hx hb dX10_counts_33 (by decide) ?_
        refine lv_goto (tgt := 38) hx hb dX10_counts_34 (by decide) ?_
        have : (1 : Int32).toInt = 1 := (by decide)
        exact W.zret (v := 1) hx hb hr rfl (fun t ht9 hW => ⟨1, rfl, ⟨⟨by decide, by decide⟩, (show (((1 : Int32).toInt = 1 ∧ ((fa 10 0) (9 * ((a).toInt).toNat + 7)).toInt ≤ (b).toInt ∧ (((fa 10 0) (9 * ((a).toInt).toNat + 8)).toInt = -1 ∨ (b).toInt < ((fa 10 0) (9 * ((a).toInt).toNat + 8)).toInt)) ∨ ((1 : Int32).toInt = 0 ∧ ¬ (((fa 10 0) (9 * ((a).toInt).toNat + 7)).toInt ≤ (b).toInt ∧ (((fa 10 0) (9 * ((a).toInt).toNat + 8)).toInt = -1 ∨ (b).toInt < ((fa 10 0) (9 * ((a).toInt).toNat + 8)).toInt)))) from by omega)⟩, ht9⟩) (fun q hq => by cases hq) dX10_counts_38
/-! ===== sm2 ===== -/
/-! ===== st1 ===== -/

/-- which skeins of a bale and a look count on a day, on both sides; their sums and their number -/
def cxP (rw : Nat → Int32) (b d l : Int) : Nat → Prop := fun s => (rw (9 * s + 0)).toInt = b ∧ (rw (9 * s + 1)).toInt = l ∧ (rw (9 * s + 7)).toInt ≤ d ∧ ((rw (9 * s + 8)).toInt = -1 ∨ d < (rw (9 * s + 8)).toInt)
def cyP (ob ol dy lo : Nat → Int32) (b d l : Int) : Nat → Prop := fun s => (ob s).toInt = b ∧ (ol s).toInt = l ∧ (dy s).toInt ≤ d ∧ ((lo s).toInt < 0 ∨ d < (lo s).toInt)
noncomputable def sX (rw : Nat → Int32) (b d l : Int) (k n : Nat) : Int64 := smL (cxP rw b d l) (fun s => rw (9 * s + k)) n
noncomputable def nX (rw : Nat → Int32) (b d l : Int) (n : Nat) : Int32 := smC (cxP rw b d l) n
noncomputable def sY (ob ol dy lo w : Nat → Int32) (b d l : Int) (n : Nat) : Int64 := smL (cyP ob ol dy lo b d l) w n
noncomputable def nY (ob ol dy lo : Nat → Int32) (b d l : Int) (n : Nat) : Int32 := smC (cyP ob ol dy lo b d l) n
/-- both sides' skeins are the same -/
def RoE (n : Int) (rw ob ol sc ra dr ov ha dy lo : Nat → Int32) : Prop := ∀ s : Nat, (s : Int) < n → rw (9 * s + 0) = ob s ∧ rw (9 * s + 1) = ol s ∧ rw (9 * s + 2) = sc s ∧ rw (9 * s + 3) = ra s ∧ rw (9 * s + 4) = dr s ∧ rw (9 * s + 5) = ov s ∧ rw (9 * s + 6) = ha s ∧ rw (9 * s + 7) = dy s ∧ rw (9 * s + 8) = lo s
theorem RoE_c {n : Int} {rw ob ol sc ra dr ov ha dy lo : Nat → Int32} (h : RoE n rw ob ol sc ra dr ov ha dy lo) (hl : ∀ j : Nat, -1 ≤ (lo j).toInt) (b d l : Int) {s : Nat} (hs : (s : Int) < n) : cxP rw b d l s ↔ cyP ob ol dy lo b d l s := by
  obtain ⟨a0, a1, -, -, -, -, -, a7, a8⟩ := h s hs
  have q := hl s
  show ((rw (9 * s + 0)).toInt = b ∧ (rw (9 * s + 1)).toInt = l ∧ (rw (9 * s + 7)).toInt ≤ d ∧ ((rw (9 * s + 8)).toInt = -1 ∨ d < (rw (9 * s + 8)).toInt)) ↔ ((ob s).toInt = b ∧ (ol s).toInt = l ∧ (dy s).toInt ≤ d ∧ ((lo s).toInt < 0 ∨ d < (lo s).toInt))
  rw [a0, a1, a7, a8]
  constructor
  · intro z; exact ⟨by omega, by omega, by omega, by omega⟩
  · intro z; exact ⟨by omega, by omega, by omega, by omega⟩
theorem RoE_s {n : Int} {rw ob ol sc ra dr ov ha dy lo : Nat → Int32} (h : RoE n rw ob ol sc ra dr ov ha dy lo) (hl : ∀ j : Nat, -1 ≤ (lo j).toInt) (b d l : Int) : sX rw b d l 3 n.toNat = sY ob ol dy lo ra b d l n.toNat ∧ sX rw b d l 4 n.toNat = sY ob ol dy lo dr b d l n.toNat ∧ nX rw b d l n.toNat = nY ob ol dy lo b d l n.toNat := by
  refine ⟨smL_cg _ (fun j hj => ⟨RoE_c h hl b d l (by omega), (h j (by omega)).2.2.2.1⟩), smL_cg _ (fun j hj => ⟨RoE_c h hl b d l (by omega), (h j (by omega)).2.2.2.2.1⟩), smC_cg _ (fun j hj => RoE_c h hl b d l (by omega))⟩
/-- as the machine's library tells it -/
def absL (x : Int64) : Int64 := if 0 < x then x else -x
theorem abs_p {x : Int64} (h : 0 ≤ x.toInt) : absL x = x := by
  unfold absL; split
  · rfl
  · next q =>
    have q2 : ¬ (0 : Int64).toInt < x.toInt := fun z => q (Int64.lt_iff_toInt_lt.mpr z)
    have z0 : (0 : Int64).toInt = 0 := rfl
    have e : x = 0 := Int64.toInt_inj.mp (by omega)
    rw [e]; decide
theorem abs_n {x y : Int64} (h : x.toInt < 0) (hy : y = 0 - x) : absL x = y := by
  unfold absL; split
  · next q =>
    have q2 := Int64.lt_iff_toInt_lt.mp q
    have z0 : (0 : Int64).toInt = 0 := rfl
    omega
  · rw [hy]
    apply Int64.toInt_inj.mp
    have z0 : (0 : Int64).toInt = 0 := rfl
    rw [Int64.toInt_neg, Int64.toInt_sub, z0, Int.zero_sub]
/-- a thousand times the difference of two ratios is above a bound -/
def difL (d0 r0 d1 r1 : Int64) (p : Int32) : Prop := (p.toInt64 * r0 * r1).toInt < ((1000 : Int64) * absL (d0 * r1 - d1 * r0)).toInt
/-- the state by what holds, by the numbers of skeins, by whether looks part -/
def WuR (F : Int → Int → Prop) (c0 c1 c2 : Int) (df : Int32 → Prop) (r : Int) : Prop := ∃ nd : Int, F 1 nd ∧ ((c0 < nd ∧ r = 0) ∨ (nd ≤ c0 ∧ ∃ lk : Int, F 3 lk ∧ ((lk = 1 ∧ r = 1) ∨ (lk ≠ 1 ∧ ((c1 < nd ∧ r = 0) ∨ (nd ≤ c1 ∧ ∃ pt : Int32, F 2 pt.toInt ∧ ((¬ df pt ∧ r = 1) ∨ (df pt ∧ ((c2 < nd ∧ r = 2) ∨ (nd ≤ c2 ∧ r = 1))))))))))
theorem WuR_un {F G : Int → Int → Prop} {c0 c1 c2 : Int} {df : Int32 → Prop} {r s : Int} (hF : ∀ a v w : Int, 0 ≤ a → a ≤ 5 → F a v → G a w → v = w) (h : WuR F c0 c1 c2 df r) (k : WuR G c0 c1 c2 df s) : r = s := by
  obtain ⟨nd, h1, h2⟩ := h
  obtain ⟨nd', k1, k2⟩ := k
  have e1 := hF 1 nd nd' (by decide) (by decide) h1 k1
  subst e1
  rcases h2 with ⟨a1, a2⟩ | ⟨a1, lk, h3, h4⟩
  · rcases k2 with ⟨b1, b2⟩ | ⟨b1, -⟩
    · omega
    · omega
  · rcases k2 with ⟨b1, b2⟩ | ⟨b1, lk', k3, k4⟩
    · omega
    · have e2 := hF 3 lk lk' (by decide) (by decide) h3 k3
      subst e2
      rcases h4 with ⟨a3, a4⟩ | ⟨a3, h5⟩
      · rcases k4 with ⟨b3, b4⟩ | ⟨b3, -⟩
        · omega
        · omega
      · rcases k4 with ⟨b3, b4⟩ | ⟨b3, k5⟩
        · omega
        · rcases h5 with ⟨a5, a6⟩ | ⟨a5, pt, h6, h7⟩
          · rcases k5 with ⟨b5, b6⟩ | ⟨b5, -⟩
            · omega
            · omega
          · rcases k5 with ⟨b5, b6⟩ | ⟨b5, pt', k6, k7⟩
            · omega
            · have e3 := Int32.toInt_inj.mp (hF 2 pt.toInt pt'.toInt (by decide) (by decide) h6 k6)
              subst e3
              rcases h7 with ⟨a7, a8⟩ | ⟨a7, h8⟩
              · rcases k7 with ⟨b7, b8⟩ | ⟨b7, -⟩
                · omega
                · exact absurd b7 a7
              · rcases k7 with ⟨b7, b8⟩ | ⟨b7, k8⟩
                · exact absurd a7 b7
                · omega
set_option maxHeartbeats 4000000 in
set_option maxRecDepth 100000 in
/-- X12_plain -/
theorem c_X12_plain_f (l : Launch) (dC : Nat → ClassId) (dI : Nat → Nat → Nat) (a : Int64) : Met l yX12_plain (wc yX12_plain cX12_plain 2 (some .long)) ({ frames := 0, cells := 0, slots := 0, locals := 0 } : Room) (pR (dC, dI) classes [] [] [.long a]) (vp_Sl (fun r => (True) ∧ ((a.toInt < 0 ∨ r.toInt = a.toInt)) ∧ (r.toInt = (absL a).toInt))) 0 0 (fun _ => False) := by
  refine Met.ofW (cc := cX12_plain) (maxL := 2) (ret := (some .long)) (by decide) rfl ?_
  intro p e s m args below meth c s₁ B hml hv
  obtain ⟨rfl, hP, hK⟩ := hv
  have hx := B.exec
  have hb := B.bytes
  have hr := B.returns
  have ht := tb_tl (atoms_spec (ws := wc yX12_plain cX12_plain 2 (some .long)) B.pre)
  have hown : s.vm.findClass RX12 = some m.cls := findClass_of_methodNamed B.named
  have hlocks := B.notSynchronized
  have hl := lv_entry [.long a] (n := 2) (Nat.le_of_ble_eq_true rfl)
  rw [lg_entry_eq]
  generalize (lg_sl [.long a] ++ List.replicate (2 - (lg_sl [.long a]).length) Slot.unset).toArray = ls at hl ⊢
  have hl : lv_has ls 2 [(0, .long a)] := hl
  refine lv_lload_n hx hb dX12_plain_0 rfl (lv_at hl 0 rfl) ?_
  refine lv_lconst (v := 0) hx hb dX12_plain_1 (by decide) ?_
  refine W.lcmp hx hb dX12_plain_2 ?_
  refine lv_topi (fun v1 ev1 => ?_)
  refine lv_if_ge (tgt := 12) hx hb dX12_plain_3 (by decide) (fun c2 => ?_) (fun c2 => ?_)
  · have fc2 := zc_nlt ev1 (rfl : (a).toInt = _) (by decide : (0 : Int64).toInt = 0) (Int32.not_lt.mpr c2)
    refine lv_lload_n hx hb dX12_plain_12 rfl (lv_at hl 0 rfl) ?_
    exact W.lret (v := a) hx hb hr (fun t ht9 hW => ⟨a, rfl, ⟨trivial, (show ((a).toInt < 0 ∨ (a : Int64).toInt = (a).toInt) from by omega), (show (a : Int64).toInt = (absL a).toInt from (by rw [abs_p (by omega)]))⟩, ht9⟩) (fun q hq => by cases hq) dX12_plain_13
  · have fc2 := zc_lt ev1 (rfl : (a).toInt = _) (by decide : (0 : Int64).toInt = 0) (Int32.not_le.mp c2)
    refine lv_lconst (v := 0) hx hb dX12_plain_6 (by decide) ?_
    refine lv_lload_n hx hb dX12_plain_7 rfl (lv_at hl 0 rfl) ?_
    refine lv_lsub hx hb dX12_plain_8 ?_
    refine lv_topl (fun w3 ew3 => ?_)
    refine lv_goto (tgt := 13) hx hb dX12_plain_9 (by decide) ?_
    exact W.lret (v := w3) hx hb hr (fun t ht9 hW => ⟨w3, rfl, ⟨trivial, (show ((a).toInt < 0 ∨ (w3 : Int64).toInt = (a).toInt) from by omega), (show (w3 : Int64).toInt = (absL a).toInt from (by rw [abs_n (x := a) (by omega) ew3]))⟩, ht9⟩) (fun q hq => by cases hq) dX12_plain_13
set_option maxHeartbeats 4000000 in
set_option maxRecDepth 100000 in
/-- X12_doPart -/
theorem c_X12_doPart_f (l : Launch) (dC : Nat → ClassId) (dI : Nat → Nat → Nat) (a : Int64) (b : Int64) (d : Int64) (k : Int64) (n : Int32) : Met l yX12_doPart (wc yX12_doPart cX12_doPart 9 (some .boolean)) ({ frames := 1, cells := 0, slots := 0, locals := 21 } : Room) (pR (dC, dI) classes [] [] [.long a, .long b, .long d, .long k, .int n]) (vp_Si (fun r => (0 ≤ r.toInt ∧ r.toInt ≤ 1) ∧ (((r.toInt = 1 ∧ difL a b d k n) ∨ (r.toInt = 0 ∧ ¬ difL a b d k n))))) 0 0 (fun _ => False) := by
  refine Met.ofW (cc := cX12_doPart) (maxL := 9) (ret := (some .boolean)) (by decide) rfl ?_
  intro p e s m args below meth c s₁ B hml hv
  obtain ⟨rfl, hP, hK⟩ := hv
  have hx := B.exec
  have hb := B.bytes
  have hr := B.returns
  have ht := tb_tl (atoms_spec (ws := wc yX12_doPart cX12_doPart 9 (some .boolean)) B.pre)
  have hown : s.vm.findClass RX12 = some m.cls := findClass_of_methodNamed B.named
  have hlocks := B.notSynchronized
  have hl := lv_entry [.long a, .long b, .long d, .long k, .int n] (n := 9) (Nat.le_of_ble_eq_true rfl)
  rw [lg_entry_eq]
  generalize (lg_sl [.long a, .long b, .long d, .long k, .int n] ++ List.replicate (9 - (lg_sl [.long a, .long b, .long d, .long k, .int n]).length) Slot.unset).toArray = ls at hl ⊢
  have hl : lv_has ls 9 [(0, .long a), (2, .long b), (4, .long d), (6, .long k), (8, .int n)] := hl
  refine lv_ldc2 hx hb hown (ht _ m_1543) dX12_doPart_0 ?_
  refine lv_lload_n hx hb dX12_doPart_3 rfl (lv_at hl 0 rfl) ?_
  refine lv_lload hx hb dX12_doPart_4 (lv_at hl 3 rfl) ?_
  refine lv_lmul hx hb dX12_doPart_6 ?_
  refine lv_topl (fun w1 ew1 => ?_)
  refine lv_lload hx hb dX12_doPart_7 (lv_at hl 2 rfl) ?_
  refine lv_lload_n hx hb dX12_doPart_9 rfl (lv_at hl 1 rfl) ?_
  refine lv_lmul hx hb dX12_doPart_10 ?_
  refine lv_topl (fun w2 ew2 => ?_)
  refine lv_lsub hx hb dX12_doPart_11 ?_
  refine lv_topl (fun w3 ew3 => ?_)
  refine vp_callSl (W.runS (As := [.long w3]) (rest := [.long 1000]) ⟨hx, hb, hml, hown, ht⟩ (c_X12_plain_f l dC dI w3) (kS 1 ht m_1445 m_1446 m_89 m_1447 rfl rfl hd_X12_plain_v ⟨Nat.le_of_ble_eq_true rfl, Nat.le_of_ble_eq_true rfl⟩) (sR noP (hK.sub (tys' := []) [] rfl)) rfl rfl hl.1 rfl (lv_room (Nat.le_of_ble_eq_true rfl)) dX12_doPart_12 ⟨Nat.le_of_ble_eq_true rfl, Nat.le_of_ble_eq_true rfl⟩) (fun r4 hr4 => ?_)
  obtain ⟨hr4, xr4_0, xr4_1⟩ := hr4
  have xr4_0 : ((w3 : Int64).toInt < 0 ∨ (r4 : Int64).toInt = (w3 : Int64).toInt) := xr4_0
  have xr4_1 : (r4 : Int64).toInt = (absL (w3 : Int64)).toInt := xr4_1
  refine lv_lmul hx hb dX12_doPart_15 ?_
  refine lv_topl (fun w5 ew5 => ?_)
  refine lv_iload hx hb dX12_doPart_16 (lv_at hl 4 rfl) ?_
  refine lv_i2l (v := (n.toInt64)) hx hb dX12_doPart_18 rfl ?_
  refine lv_lload_n hx hb dX12_doPart_19 rfl (lv_at hl 1 rfl) ?_
  refine lv_lmul hx hb dX12_doPart_20 ?_
  refine lv_topl (fun w6 ew6 => ?_)
  refine lv_lload hx hb dX12_doPart_21 (lv_at hl 3 rfl) ?_
  refine lv_lmul hx hb dX12_doPart_23 ?_
  refine lv_topl (fun w7 ew7 => ?_)
  refine W.lcmp hx hb dX12_doPart_24 ?_
  refine lv_topi (fun v8 ev8 => ?_)
  refine lv_if_le (tgt := 32) hx hb dX12_doPart_25 (by decide) (fun c9 => ?_) (fun c9 => ?_)
  · have fc9 := zc_ngt ev8 (rfl : (w5).toInt = _) (rfl : (w7).toInt = _) (Int32.not_lt.mpr c9)
    refine lv_iconst (v := 0) hx hb dX12_doPart_32 (by decide) ?_
    have : (0 : Int32).toInt = 0 := (by decide)
    exact W.zret (v := 0) hx hb hr rfl (fun t ht9 hW => ⟨0, rfl, ⟨⟨by decide, by decide⟩, (show (((0 : Int32).toInt = 1 ∧ difL a b d k n) ∨ ((0 : Int32).toInt = 0 ∧ ¬ difL a b d k n)) from (by have hp9 : r4 = absL _ := Int64.toInt_inj.mp xr4_1; subst hp9; subst_vars; exact Or.inr ⟨by decide, fun q9 => (by have q8 := q9; unfold difL at q8; exact absurd fc9 (Int.not_le.mpr q8))⟩))⟩, ht9⟩) (fun q hq => by cases hq) dX12_doPart_33
  · have fc9 := zc_gt ev8 (rfl : (w5).toInt = _) (rfl : (w7).toInt = _) (Int32.not_le.mp c9)
    refine lv_iconst (v := 1) hx hb dX12_doPart_28 (by decide) ?_
    refine lv_goto (tgt := 33) hx hb dX12_doPart_29 (by decide) ?_
    have : (1 : Int32).toInt = 1 := (by decide)
    exact W.zret (v := 1) hx hb hr rfl (fun t ht9 hW => ⟨1, rfl, ⟨⟨by decide, by decide⟩, (show (((1 : Int32).toInt = 1 ∧ difL a b d k n) ∨ ((1 : Int32).toInt = 0 ∧ ¬ difL a b d k n)) from (by have hp9 : r4 = absL _ := Int64.toInt_inj.mp xr4_1; subst hp9; subst_vars; exact Or.inl ⟨by decide, fc9⟩))⟩, ht9⟩) (fun q hq => by cases hq) dX12_doPart_33
