/-! ===== bk4 ===== -/
set_option maxHeartbeats 4000000 in
set_option maxRecDepth 100000 in
/-- X12_findRules -/
theorem c_X12_findRules_f (l : Launch) (dC : Nat → ClassId) (dI : Nat → Nat → Nat) (sz : Nat) (h : Nat) (g : Nat → Nat → Nat) (ca : Nat → Nat → ClassId) (iv : Nat → Nat → Int32) (lv : Nat → Nat → Int64) (fa : Nat → Nat → Nat → Int32) (la : Nat → Nat → Nat → Int64) (hI : IX iv fa) (a : Int32) (hJC : JCf (iv 12 23).toInt (fa 12 25) (fa 12 26) (fa 12 27) (fa 12 28)) (hJK : ∀ k j : Nat, (k : Int) < (iv 12 23).toInt → 12 * k ≤ j → (j : Int) < 12 * (k : Int) + (fa 12 25 k).toInt → (fa 12 26 j).toInt = 3 → 0 ≤ (fa 12 28 j).toInt ∧ (fa 12 28 j).toInt < (k : Int)) : Met l yX12_findRules (wc yX12_findRules cX12_findRules 4 none) ({ frames := 0, cells := 0, slots := 0, locals := 0 } : Room) (pW (dC, dI) classes (WM h g ca iv lv fa la) (TM ca) sz [.ref h, .int a]) (va_Qv (fun (u : SS) => ∃ (na_12_39 : Nat → Int32) (na_12_40 : Nat → Int32) (ni_12_41 : Int32), (∀ j, inb (bA 12 39 j) (na_12_39 j)) ∧ (∀ j, inb (bA 12 40 j) (na_12_40 j)) ∧ inb (bI 12 41) ni_12_41 ∧ (∀ j : Nat, (j : Int) < (ni_12_41).toInt → (na_12_40 j).toInt < (iv 12 23).toInt) ∧ ((ni_12_41).toInt ≤ (iv 12 23).toInt) ∧ (OnR (iv 12 23).toInt (fun r => (na_12_39 r).toInt = 1) (fa 12 24) (St (fa 12 25) (mX (fa 12 26) 3) (fa 12 28)) a.toInt) ∧ (OrK (iv 12 23).toInt (fun r => (na_12_39 r).toInt = 1) (fa 12 24) na_12_40 (ni_12_41).toInt) ∧ u = ((u2 iv 12 41 ni_12_41), lv, (u2 (u2 fa 12 39 na_12_39) 12 40 na_12_40), la)) (bM (dC, dI) h g ca (va_A (WM h g ca iv lv fa la) sz)) (va_A (WM h g ca iv lv fa la) sz)) 0 0 (va_A (WM h g ca iv lv fa la) sz) := by
  refine Met.ofW (cc := cX12_findRules) (maxL := 4) (ret := none) (by decide) rfl ?_
  intro p e s m args below meth c s₁ B hml hv
  obtain ⟨rfl, hsz, hP, hK, hD0⟩ := hv
  have hx := B.exec
  have hb := B.bytes
  have hr := B.returns
  have ht := tb_tl (atoms_spec (ws := wc yX12_findRules cX12_findRules 4 none) B.pre)
  have hown : s.vm.findClass RX12 = some m.cls := findClass_of_methodNamed B.named
  have hlocks := B.notSynchronized
  subst hsz
  have hD := hD0.self (sz := s.heap.size)
  generalize hAe : va_A (WM h g ca iv lv fa la) s.heap.size = A at hD ⊢
  have hA : ∀ q : Nat, s.heap.size ≤ q → A q := fun q h => by rw [← hAe]; exact Or.inr h
  have hS : va_S A s.heap s.heap [] := va_S.rf
  have hl := lv_entry [.ref h, .int a] (n := 4) (Nat.le_of_ble_eq_true rfl)
  rw [lg_entry_eq]
  generalize (lg_sl [.ref h, .int a] ++ List.replicate (4 - (lg_sl [.ref h, .int a]).length) Slot.unset).toArray = ls at hl ⊢
  have hl : lv_has ls 4 [(0, .ref h), (1, .int a)] := hl
  refine lv_iconst (v := 0) hx hb dX12_findRules_0 (by decide) ?_
  refine lv_istore_n (lv' := [(2, .int 0), (0, .ref h), (1, .int a)]) hx hb dX12_findRules_1 rfl hl (by decide) rfl (fun ls hl => ?_)
  have i_12_23 : 0 ≤ (iv 12 23).toInt ∧ (iv 12 23).toInt ≤ 8 := hI.1 12 23
  have lp10204 : ∀ (nn10204 : Nat) (x10203_2 : Int32) (w10203_a_12_39 : Nat → Int32), 0 ≤ x10203_2.toInt ∧ x10203_2.toInt ≤ 8 → (∀ j, inb (bA 12 39 j) (w10203_a_12_39 j)) → (∀ r : Nat, (r : Int) < (x10203_2 : Int32).toInt → ((w10203_a_12_39 r).toInt = 1 ↔ ((fa 12 24) r).toInt ≤ (a).toInt)) → (x10203_2 : Int32).toInt ≤ ((iv 12 23) : Int32).toInt → 8 - x10203_2.toInt < (nn10204 : Int) → ∀ (H : Heap) (locs : List Loc), ∀ (ls : Array Slot), va_P (dC, dI) classes (WM h g ca iv lv (u2 fa 12 39 w10203_a_12_39) la) H → va_D A (WM h g ca iv lv (u2 fa 12 39 w10203_a_12_39) la) → va_S A s.heap H locs → lv_has ls 4 [(2, .int x10203_2), (0, .ref h), (1, .int a)] → W p l e ({ frames := 0, cells := 0, slots := 0, locals := 0 } : Room) s m ([.ref h, .int a] : List Value).toArray below meth c H locs 0 0 (MQ below (va_Qv (fun (u : SS) => ∃ (na_12_39 : Nat → Int32) (na_12_40 : Nat → Int32) (ni_12_41 : Int32), (∀ j, inb (bA 12 39 j) (na_12_39 j)) ∧ (∀ j, inb (bA 12 40 j) (na_12_40 j)) ∧ inb (bI 12 41) ni_12_41 ∧ (∀ j : Nat, (j : Int) < (ni_12_41).toInt → (na_12_40 j).toInt < (iv 12 23).toInt) ∧ ((ni_12_41).toInt ≤ (iv 12 23).toInt) ∧ (OnR (iv 12 23).toInt (fun r => (na_12_39 r).toInt = 1) (fa 12 24) (St (fa 12 25) (mX (fa 12 26) 3) (fa 12 28)) a.toInt) ∧ (OrK (iv 12 23).toInt (fun r => (na_12_39 r).toInt = 1) (fa 12 24) na_12_40 (ni_12_41).toInt) ∧ u = ((u2 iv 12 41 ni_12_41), lv, (u2 (u2 fa 12 39 na_12_39) 12 40 na_12_40), la)) (bM (dC, dI) h g ca A) A) ([.ref h, .int a] : List Value).toArray s 0 0 A) (F0 m 2 ls []) := by
    intro nn10204
    induction nn10204 with
    | zero => intro x10203_2 w10203_a_12_39 hx10203_2 hw10203_a_12_39 hq10204_0 hq10204_1 hm10204; exfalso; omega
    | succ nn10204 ih10204 =>
      intro x10203_2 w10203_a_12_39 hx10203_2 hw10203_a_12_39 hq10204_0 hq10204_1 hm10204 H locs ls hP hD hS hl
      refine lv_iload_n hx hb dX12_findRules_2 rfl (lv_at hl 0 rfl) ?_
      refine lv_aload_n hx hb dX12_findRules_3 rfl (lv_at hl 1 rfl) ?_
      refine gM_12_23 hx hb ht hown hK hP m_1162 (v := (iv 12 23)) rfl dX12_findRules_4 ?_
      refine lv_icmp_ge (tgt := 37) hx hb dX12_findRules_7 (by decide) (fun c10205 => ?_) (fun c10205 => ?_)
      · have fc10205 := z_le (rfl : ((iv 12 23)).toInt = _) (rfl : (x10203_2).toInt = _) c10205
        refine lv_aload_n hx hb dX12_findRules_37 rfl (lv_at hl 1 rfl) ?_
        refine gM_12_23 hx hb ht hown hK hP m_1162 (v := (iv 12 23)) rfl dX12_findRules_38 ?_
        refine lv_iconst (v := 1) hx hb dX12_findRules_41 (by decide) ?_
        refine lv_isub hx hb dX12_findRules_42 ?_
        refine lv_topi (fun v10206 ev10206 => ?_)
        have tv10206 := z_sub ev10206 (rfl : ((iv 12 23)).toInt = _) (by decide : (1 : Int32).toInt = 1) (by omega) (by omega)
        refine lv_istore_n (lv' := [(2, .int v10206), (0, .ref h), (1, .int a)]) hx hb dX12_findRules_43 rfl hl (by decide) rfl (fun ls hl => ?_)
        have lp11396 : ∀ (nn11396 : Nat) (x11395_2 : Int32) (w11395_a_12_39 : Nat → Int32), (-1) ≤ x11395_2.toInt ∧ x11395_2.toInt ≤ 7 → (∀ j, inb (bA 12 39 j) (w11395_a_12_39 j)) → (Pa ((iv 12 23) : Int32).toInt (x11395_2 : Int32).toInt w11395_a_12_39 (fa 12 24) (St (fa 12 25) (mX (fa 12 26) 3) (fa 12 28)) (a).toInt) → (x11395_2 : Int32).toInt + 1 ≤ ((iv 12 23) : Int32).toInt → -1 ≤ (x11395_2 : Int32).toInt → x11395_2.toInt - (-1) < (nn11396 : Int) → ∀ (H : Heap) (locs : List Loc), ∀ (ls : Array Slot), va_P (dC, dI) classes (WM h g ca iv lv (u2 fa 12 39 w11395_a_12_39) la) H → va_D A (WM h g ca iv lv (u2 fa 12 39 w11395_a_12_39) la) → va_S A s.heap H locs → lv_has ls 4 [(2, .int x11395_2), (0, .ref h), (1, .int a)] → W p l e ({ frames := 0, cells := 0, slots := 0, locals := 0 } : Room) s m ([.ref h, .int a] : List Value).toArray below meth c H locs 0 0 (MQ below (va_Qv (fun (u : SS) => ∃ (na_12_39 : Nat → Int32) (na_12_40 : Nat → Int32) (ni_12_41 : Int32), (∀ j, inb (bA 12 39 j) (na_12_39 j)) ∧ (∀ j, inb (bA 12 40 j) (na_12_40 j)) ∧ inb (bI 12 41) ni_12_41 ∧ (∀ j : Nat, (j : Int) < (ni_12_41).toInt → (na_12_40 j).toInt < (iv 12 23).toInt) ∧ ((ni_12_41).toInt ≤ (iv 12 23).toInt) ∧ (OnR (iv 12 23).toInt (fun r => (na_12_39 r).toInt = 1) (fa 12 24) (St (fa 12 25) (mX (fa 12 26) 3) (fa 12 28)) a.toInt) ∧ (OrK (iv 12 23).toInt (fun r => (na_12_39 r).toInt = 1) (fa 12 24) na_12_40 (ni_12_41).toInt) ∧ u = ((u2 iv 12 41 ni_12_41), lv, (u2 (u2 fa 12 39 na_12_39) 12 40 na_12_40), la)) (bM (dC, dI) h g ca A) A) ([.ref h, .int a] : List Value).toArray s 0 0 A) (F0 m 44 ls []) := by
          intro nn11396
          induction nn11396 with
          | zero => intro x11395_2 w11395_a_12_39 hx11395_2 hw11395_a_12_39 hq11396_0 hq11396_1 hq11396_2 hm11396; exfalso; omega
          | succ nn11396 ih11396 =>
            intro x11395_2 w11395_a_12_39 hx11395_2 hw11395_a_12_39 hq11396_0 hq11396_1 hq11396_2 hm11396 H locs ls hP hD hS hl
            refine lv_iload_n hx hb dX12_findRules_44 rfl (lv_at hl 0 rfl) ?_
            refine lv_if_lt (tgt := 111) hx hb dX12_findRules_45 (by decide) (fun c11397 => ?_) (fun c11397 => ?_)
            · have fc11397 := z_lt (rfl : (x11395_2).toInt = _) (by decide : (0 : Int32).toInt = 0) c11397
              have on9 : OnR (iv 12 23).toInt (fun r => (w11395_a_12_39 r).toInt = 1) (fa 12 24) (St (fa 12 25) (mX (fa 12 26) 3) (fa 12 28)) a.toInt := Pa_end (by omega) hq11396_0
              refine lv_aload_n hx hb dX12_findRules_111 rfl (lv_at hl 1 rfl) ?_
              refine lv_iconst (v := 0) hx hb dX12_findRules_112 (by decide) ?_
              refine pM_12_41 (v := 0) hx hb ht hown hK hP hD hS m_1180 dX12_findRules_113 (fun H locs hP hD hS => ?_)
              refine lv_iconst (v := 0) hx hb dX12_findRules_116 (by decide) ?_
              refine lv_istore_n (lv' := [(2, .int 0), (0, .ref h), (1, .int a)]) hx hb dX12_findRules_117 rfl hl (by decide) rfl (fun ls hl => ?_)
              have lp11871 : ∀ (nn11871 : Nat) (x11870_2 : Int32) (w11870_i_12_41 : Int32) (w11870_a_12_40 : Nat → Int32), 0 ≤ x11870_2.toInt ∧ x11870_2.toInt ≤ 8 → 0 ≤ w11870_i_12_41.toInt ∧ w11870_i_12_41.toInt ≤ 8 → (∀ j, inb (bA 12 40 j) (w11870_a_12_40 j)) → (∀ j : Nat, (j : Int) < (w11870_i_12_41 : Int32).toInt → (w11870_a_12_40 j).toInt < ((iv 12 23) : Int32).toInt) → (OrK (x11870_2 : Int32).toInt (fun r => (w11395_a_12_39 r).toInt = 1) (fa 12 24) w11870_a_12_40 (w11870_i_12_41 : Int32).toInt) → (w11870_i_12_41 : Int32).toInt ≤ (x11870_2 : Int32).toInt → 0 ≤ (w11870_i_12_41 : Int32).toInt → (x11870_2 : Int32).toInt ≤ ((iv 12 23) : Int32).toInt → 8 - x11870_2.toInt < (nn11871 : Int) → ∀ (H : Heap) (locs : List Loc), ∀ (ls : Array Slot), va_P (dC, dI) classes (WM h g ca (u2 iv 12 41 w11870_i_12_41) lv (u2 (u2 fa 12 39 w11395_a_12_39) 12 40 w11870_a_12_40) la) H → va_D A (WM h g ca (u2 iv 12 41 w11870_i_12_41) lv (u2 (u2 fa 12 39 w11395_a_12_39) 12 40 w11870_a_12_40) la) → va_S A s.heap H locs → lv_has ls 4 [(2, .int x11870_2), (0, .ref h), (1, .int a)] → W p l e ({ frames := 0, cells := 0, slots := 0, locals := 0 } : Room) s m ([.ref h, .int a] : List Value).toArray below meth c H locs 0 0 (MQ below (va_Qv (fun (u : SS) => ∃ (na_12_39 : Nat → Int32) (na_12_40 : Nat → Int32) (ni_12_41 : Int32), (∀ j, inb (bA 12 39 j) (na_12_39 j)) ∧ (∀ j, inb (bA 12 40 j) (na_12_40 j)) ∧ inb (bI 12 41) ni_12_41 ∧ (∀ j : Nat, (j : Int) < (ni_12_41).toInt → (na_12_40 j).toInt < (iv 12 23).toInt) ∧ ((ni_12_41).toInt ≤ (iv 12 23).toInt) ∧ (OnR (iv 12 23).toInt (fun r => (na_12_39 r).toInt = 1) (fa 12 24) (St (fa 12 25) (mX (fa 12 26) 3) (fa 12 28)) a.toInt) ∧ (OrK (iv 12 23).toInt (fun r => (na_12_39 r).toInt = 1) (fa 12 24) na_12_40 (ni_12_41).toInt) ∧ u = ((u2 iv 12 41 ni_12_41), lv, (u2 (u2 fa 12 39 na_12_39) 12 40 na_12_40), la)) (bM (dC, dI) h g ca A) A) ([.ref h, .int a] : List Value).toArray s 0 0 A) (F0 m 118 ls []) := by
                intro nn11871
                induction nn11871 with
                | zero => intro x11870_2 w11870_i_12_41 w11870_a_12_40 hx11870_2 hw11870_i_12_41 hw11870_a_12_40 hq11871_0 hq11871_1 hq11871_2 hq11871_3 hq11871_4 hm11871; exfalso; omega
                | succ nn11871 ih11871 =>
                  intro x11870_2 w11870_i_12_41 w11870_a_12_40 hx11870_2 hw11870_i_12_41 hw11870_a_12_40 hq11871_0 hq11871_1 hq11871_2 hq11871_3 hq11871_4 hm11871 H locs ls hP hD hS hl
                  refine lv_iload_n hx hb dX12_findRules_118 rfl (lv_at hl 0 rfl) ?_
                  refine lv_aload_n hx hb dX12_findRules_119 rfl (lv_at hl 1 rfl) ?_
                  refine gM_12_23 hx hb ht hown hK hP m_1162 (v := (iv 12 23)) rfl dX12_findRules_120 ?_
                  refine lv_icmp_ge (tgt := 209) hx hb dX12_findRules_123 (by decide) (fun c11872 => ?_) (fun c11872 => ?_)
                  · have fc11872 := z_le (rfl : ((iv 12 23)).toInt = _) (rfl : (x11870_2).toInt = _) c11872
                    have hP9 : va_P (dC, dI) classes (WM h g ca (u2 iv 12 41 w11870_i_12_41) lv (u2 (u2 fa 12 39 w11395_a_12_39) 12 40 w11870_a_12_40) la) H := hP
                    have hD9 : va_D A (WM h g ca (u2 iv 12 41 w11870_i_12_41) lv (u2 (u2 fa 12 39 w11395_a_12_39) 12 40 w11870_a_12_40) la) := hD
                    exact W.vret hx hb hr (fun t ht9 hW => ⟨⟨((u2 iv 12 41 w11870_i_12_41), lv, (u2 (u2 fa 12 39 w11395_a_12_39) 12 40 w11870_a_12_40), la), rfl, ⟨w11395_a_12_39, w11870_a_12_40, w11870_i_12_41, hw11395_a_12_39, hw11870_a_12_40, (show inb (0, 8) w11870_i_12_41 from ⟨by omega, by omega⟩), (show ∀ j : Nat, (j : Int) < (w11870_i_12_41 : Int32).toInt → (w11870_a_12_40 j).toInt < ((iv 12 23) : Int32).toInt from hq11871_0), (show (w11870_i_12_41 : Int32).toInt ≤ ((iv 12 23) : Int32).toInt from by omega), (show OnR ((iv 12 23) : Int32).toInt (fun r => (w11395_a_12_39 r).toInt = 1) (fa 12 24) (St (fa 12 25) (mX (fa 12 26) 3) (fa 12 28)) (a).toInt from on9), (show OrK ((iv 12 23) : Int32).toInt (fun r => (w11395_a_12_39 r).toInt = 1) (fa 12 24) w11870_a_12_40 (w11870_i_12_41 : Int32).toInt from (by have hq9 := hq11871_1; have he9 : (x11870_2 : Int32).toInt = (iv 12 23).toInt := (by omega); rw [he9] at hq9; exact hq9)), rfl⟩, by rw [ht9]; exact hP9, hD9⟩, hS.F ht9⟩) hS.2.2 dX12_findRules_209
                  · have fc11872 := z_nle (rfl : ((iv 12 23)).toInt = _) (rfl : (x11870_2).toInt = _) c11872
                    refine lv_aload_n hx hb dX12_findRules_126 rfl (lv_at hl 1 rfl) ?_
                    refine gM_12_39 hx hb ht hown hK hP m_1178 dX12_findRules_127 ?_
                    refine lv_iload_n hx hb dX12_findRules_130 rfl (lv_at hl 0 rfl) ?_
                    refine lM_12_39 hx hb hK hP (f := w11395_a_12_39) rfl (vp_in_iff.mpr ⟨by omega, by omega⟩) dX12_findRules_131 ?_
                    refine lv_topi (fun v11873 ev11873 => ?_)
                    have tv11873 : 0 ≤ v11873.toInt ∧ v11873.toInt ≤ 1 := by rw [ev11873]; exact hw11395_a_12_39 _
                    refine lv_if_eq (tgt := 203) hx hb dX12_findRules_132 (by decide) (fun c11874 => ?_) (fun c11874 => ?_)
                    · have fc11874 := z_eq (rfl : (v11873).toInt = _) (by decide : (0 : Int32).toInt = 0) c11874
                      obtain ⟨v11875, ev11875⟩ : ∃ y : Int32, y = x11870_2 + 1 := ⟨_, rfl⟩
                      have tv11875 := z_add ev11875 rfl (by decide : (1 : Int32).toInt = 1) (by omega) (by omega)
                      refine lv_iinc (v := v11875) (lv' := [(2, .int v11875), (0, .ref h), (1, .int a)]) hx hb dX12_findRules_203 hl (k := 0) rfl (by rw [ev11875]; rfl) (by decide) rfl (fun ls hl => ?_)
                      refine lv_goto (tgt := 118) hx hb dX12_findRules_206 (by decide) ?_
                      exact ih11871 v11875 w11870_i_12_41 w11870_a_12_40 ⟨by omega, by omega⟩ ⟨by omega, by omega⟩ hw11870_a_12_40 (show ∀ j : Nat, (j : Int) < (w11870_i_12_41 : Int32).toInt → (w11870_a_12_40 j).toInt < ((iv 12 23) : Int32).toInt from hq11871_0) (show OrK (v11875 : Int32).toInt (fun r => (w11395_a_12_39 r).toInt = 1) (fa 12 24) w11870_a_12_40 (w11870_i_12_41 : Int32).toInt from (by have ho9 := congrArg Int32.toInt (show v11873 = w11395_a_12_39 ((x11870_2 : Int32).toInt).toNat from ev11873); exact OrK_n (k := (x11870_2 : Int32).toInt) (by omega) (by omega) (show ¬ (w11395_a_12_39 ((x11870_2 : Int32).toInt).toNat).toInt = 1 from by omega) hq11871_1)) (show (w11870_i_12_41 : Int32).toInt ≤ (v11875 : Int32).toInt from by omega) (show 0 ≤ (w11870_i_12_41 : Int32).toInt from by omega) (show (v11875 : Int32).toInt ≤ ((iv 12 23) : Int32).toInt from by omega) (by omega) _ _ ls hP hD hS (lv_sub hl [0, 1, 2] rfl)
                    · have fc11874 := z_ne (rfl : (v11873).toInt = _) (by decide : (0 : Int32).toInt = 0) c11874
                      refine lv_aload_n hx hb dX12_findRules_135 rfl (lv_at hl 1 rfl) ?_
                      refine gM_12_41 hx hb ht hown hK hP m_1180 (v := w11870_i_12_41) rfl dX12_findRules_136 ?_
                      refine lv_istore_n (lv' := [(3, .int w11870_i_12_41), (2, .int x11870_2), (0, .ref h), (1, .int a)]) hx hb dX12_findRules_139 rfl hl (by decide) rfl (fun ls hl => ?_)
                      have lp11911 : ∀ (nn11911 : Nat) (x11910_3 : Int32) (w11910_a_12_40 : Nat → Int32), 0 ≤ x11910_3.toInt ∧ x11910_3.toInt ≤ 8 → (∀ j, inb (bA 12 40 j) (w11910_a_12_40 j)) → (∀ j : Nat, (j : Int) ≤ (w11870_i_12_41 : Int32).toInt → (j : Int) ≠ (x11910_3 : Int32).toInt → (w11910_a_12_40 j).toInt < ((iv 12 23) : Int32).toInt) → (∃ g : Nat → Int32, OrK (x11870_2 : Int32).toInt (fun r => (w11395_a_12_39 r).toInt = 1) (fa 12 24) g (w11870_i_12_41 : Int32).toInt ∧ Shf (fa 12 24) g w11910_a_12_40 ((fa 12 24) ((x11870_2 : Int32).toInt).toNat).toInt (x11910_3 : Int32).toInt (w11870_i_12_41 : Int32).toInt) → (x11910_3 : Int32).toInt ≤ (w11870_i_12_41 : Int32).toInt → 0 ≤ (x11910_3 : Int32).toInt → x11910_3.toInt - 0 < (nn11911 : Int) → ∀ (H : Heap) (locs : List Loc), ∀ (ls : Array Slot), va_P (dC, dI) classes (WM h g ca (u2 iv 12 41 w11870_i_12_41) lv (u2 (u2 fa 12 39 w11395_a_12_39) 12 40 w11910_a_12_40) la) H → va_D A (WM h g ca (u2 iv 12 41 w11870_i_12_41) lv (u2 (u2 fa 12 39 w11395_a_12_39) 12 40 w11910_a_12_40) la) → va_S A s.heap H locs → lv_has ls 4 [(3, .int x11910_3), (2, .int x11870_2), (0, .ref h), (1, .int a)] → W p l e ({ frames := 0, cells := 0, slots := 0, locals := 0 } : Room) s m ([.ref h, .int a] : List Value).toArray below meth c H locs 0 0 (MQ below (va_Qv (fun (u : SS) => ∃ (na_12_39 : Nat → Int32) (na_12_40 : Nat → Int32) (ni_12_41 : Int32), (∀ j, inb (bA 12 39 j) (na_12_39 j)) ∧ (∀ j, inb (bA 12 40 j) (na_12_40 j)) ∧ inb (bI 12 41) ni_12_41 ∧ (∀ j : Nat, (j : Int) < (ni_12_41).toInt → (na_12_40 j).toInt < (iv 12 23).toInt) ∧ ((ni_12_41).toInt ≤ (iv 12 23).toInt) ∧ (OnR (iv 12 23).toInt (fun r => (na_12_39 r).toInt = 1) (fa 12 24) (St (fa 12 25) (mX (fa 12 26) 3) (fa 12 28)) a.toInt) ∧ (OrK (iv 12 23).toInt (fun r => (na_12_39 r).toInt = 1) (fa 12 24) na_12_40 (ni_12_41).toInt) ∧ u = ((u2 iv 12 41 ni_12_41), lv, (u2 (u2 fa 12 39 na_12_39) 12 40 na_12_40), la)) (bM (dC, dI) h g ca A) A) ([.ref h, .int a] : List Value).toArray s 0 0 A) (F0 m 140 ls []) := by
                        intro nn11911
                        induction nn11911 with
                        | zero => intro x11910_3 w11910_a_12_40 hx11910_3 hw11910_a_12_40 hq11911_0 hq11911_1 hq11911_2 hq11911_3 hm11911; exfalso; omega
                        | succ nn11911 ih11911 =>
                          intro x11910_3 w11910_a_12_40 hx11910_3 hw11910_a_12_40 hq11911_0 hq11911_1 hq11911_2 hq11911_3 hm11911 H locs ls hP hD hS hl
                          refine lv_iload_n hx hb dX12_findRules_140 rfl (lv_at hl 0 rfl) ?_
                          refine lv_if_le (tgt := 186) hx hb dX12_findRules_141 (by decide) (fun c11912 => ?_) (fun c11912 => ?_)
                          · have fc11912 := z_le (rfl : (x11910_3).toInt = _) (by decide : (0 : Int32).toInt = 0) c11912
                            refine lv_aload_n hx hb dX12_findRules_186 rfl (lv_at hl 2 rfl) ?_
                            refine gM_12_40 hx hb ht hown hK hP m_1179 dX12_findRules_187 ?_
                            refine lv_iload_n hx hb dX12_findRules_190 rfl (lv_at hl 0 rfl) ?_
                            refine lv_iload_n hx hb dX12_findRules_191 rfl (lv_at hl 1 rfl) ?_
                            refine tM_12_40 hx hb hK hP hD hS (f0 := w11910_a_12_40) rfl (i := x11910_3) (x := x11870_2) (vp_in_iff.mpr ⟨by omega, by omega⟩) dX12_findRules_192 (fun f11913 ef11913 H locs hP hD hS => ?_)
                            have hf11913 : ∀ j, inb (bA 12 40 j) (f11913 j) := by rw [ef11913]; exact upd_b (b := bA 12 40) hw11910_a_12_40 (show inb (0, 7) x11870_2 from ⟨by omega, by omega⟩)
                            have hP : va_P (dC, dI) classes (WM h g ca (u2 iv 12 41 w11870_i_12_41) lv (u2 (u2 fa 12 39 w11395_a_12_39) 12 40 f11913) la) H := hP
                            have hD : va_D A (WM h g ca (u2 iv 12 41 w11870_i_12_41) lv (u2 (u2 fa 12 39 w11395_a_12_39) 12 40 f11913) la) := hD
                            refine lv_aload_n hx hb dX12_findRules_193 rfl (lv_at hl 2 rfl) ?_
                            refine lv_dup hx hb dX12_findRules_194 rfl ?_
                            refine gM_12_41 hx hb ht hown hK hP m_1180 (v := w11870_i_12_41) rfl dX12_findRules_195 ?_
                            refine lv_iconst (v := 1) hx hb dX12_findRules_198 (by decide) ?_
                            refine lv_iadd hx hb dX12_findRules_199 ?_
                            refine lv_topi (fun v11914 ev11914 => ?_)
                            have tv11914 := z_add ev11914 (rfl : (w11870_i_12_41).toInt = _) (by decide : (1 : Int32).toInt = 1) (by omega) (by omega)
                            have : 0 ≤ (v11914 : Int32).toInt ∧ (v11914 : Int32).toInt ≤ 8 := ⟨by omega, by omega⟩
                            refine pM_12_41 (v := v11914) hx hb ht hown hK hP hD hS m_1180 dX12_findRules_200 (fun H locs hP hD hS => ?_)
                            have hP : va_P (dC, dI) classes (WM h g ca (u2 iv 12 41 v11914) lv (u2 (u2 fa 12 39 w11395_a_12_39) 12 40 f11913) la) H := hP
                            have hD : va_D A (WM h g ca (u2 iv 12 41 v11914) lv (u2 (u2 fa 12 39 w11395_a_12_39) 12 40 f11913) la) := hD
                            obtain ⟨v11915, ev11915⟩ : ∃ y : Int32, y = x11870_2 + 1 := ⟨_, rfl⟩
                            have tv11915 := z_add ev11915 rfl (by decide : (1 : Int32).toInt = 1) (by omega) (by omega)
                            refine lv_iinc (v := v11915) (lv' := [(2, .int v11915), (3, .int x11910_3), (0, .ref h), (1, .int a)]) hx hb dX12_findRules_203 hl (k := 1) rfl (by rw [ev11915]; rfl) (by decide) rfl (fun ls hl => ?_)
                            refine lv_goto (tgt := 118) hx hb dX12_findRules_206 (by decide) ?_
                            exact ih11871 v11915 v11914 f11913 ⟨by omega, by omega⟩ ⟨by omega, by omega⟩ hf11913 (show ∀ j : Nat, (j : Int) < (v11914 : Int32).toInt → (f11913 j).toInt < ((iv 12 23) : Int32).toInt from (fun j h => by
                                  rw [ef11913]
                                  by_cases hj : j = (x11910_3 : Int32).toNatClampNeg
                                  · rw [hj, upd_eq]; omega
                                  · rw [upd_ne hj]; have hj2 : j ≠ (x11910_3 : Int32).toInt.toNat := hj; exact hq11911_0 j (by omega) (by omega))) (show OrK (v11915 : Int32).toInt (fun r => (w11395_a_12_39 r).toInt = 1) (fa 12 24) f11913 (v11914 : Int32).toInt from (by
                                  have ho9 := congrArg Int32.toInt (show v11873 = w11395_a_12_39 ((x11870_2 : Int32).toInt).toNat from ev11873)
                                  obtain ⟨g9, ga, gb⟩ := hq11911_1
                                  exact OrK_y (k := (x11870_2 : Int32).toInt) (i := (x11910_3 : Int32).toInt) (by omega) (by omega) (by omega) (by omega) (by omega) (show (w11395_a_12_39 ((x11870_2 : Int32).toInt).toNat).toInt = 1 from by omega) (fun t ht => by rw [ef11913, upd_ne (show t ≠ (x11910_3 : Int32).toNatClampNeg from ht)]) (by rw [ef11913, show ((x11910_3 : Int32).toInt).toNat = (x11910_3 : Int32).toNatClampNeg from rfl, upd_eq]) (Or.inl (by omega)) gb ga)) (show (v11914 : Int32).toInt ≤ (v11915 : Int32).toInt from by omega) (show 0 ≤ (v11914 : Int32).toInt from by omega) (show (v11915 : Int32).toInt ≤ ((iv 12 23) : Int32).toInt from by omega) (by omega) _ _ ls hP hD hS (lv_sub hl [0, 2, 3] rfl)
                          · have fc11912 := z_nle (rfl : (x11910_3).toInt = _) (by decide : (0 : Int32).toInt = 0) c11912
                            refine lv_aload_n hx hb dX12_findRules_144 rfl (lv_at hl 2 rfl) ?_
                            refine gM_12_24 hx hb ht hown hK hP m_1163 dX12_findRules_145 ?_
                            refine lv_aload_n hx hb dX12_findRules_148 rfl (lv_at hl 2 rfl) ?_
                            refine gM_12_40 hx hb ht hown hK hP m_1179 dX12_findRules_149 ?_
                            refine lv_iload_n hx hb dX12_findRules_152 rfl (lv_at hl 0 rfl) ?_
                            refine lv_iconst (v := 1) hx hb dX12_findRules_153 (by decide) ?_
                            refine lv_isub hx hb dX12_findRules_154 ?_
                            refine lv_topi (fun v11916 ev11916 => ?_)
                            have tv11916 := z_sub ev11916 (rfl : (x11910_3).toInt = _) (by decide : (1 : Int32).toInt = 1) (by omega) (by omega)
                            refine lM_12_40 hx hb hK hP (f := w11910_a_12_40) rfl (vp_in_iff.mpr ⟨by omega, by omega⟩) dX12_findRules_155 ?_
                            refine lv_topi (fun v11917 ev11917 => ?_)
                            have tv11917 : 0 ≤ v11917.toInt ∧ v11917.toInt ≤ 7 := by rw [ev11917]; exact hw11910_a_12_40 _
                            refine lM_12_24 hx hb hK hP (f := (fa 12 24)) rfl (vp_in_iff.mpr ⟨by omega, by omega⟩) dX12_findRules_156 ?_
                            refine lv_topi (fun v11918 ev11918 => ?_)
                            refine lv_aload_n hx hb dX12_findRules_157 rfl (lv_at hl 2 rfl) ?_
                            refine gM_12_24 hx hb ht hown hK hP m_1163 dX12_findRules_158 ?_
                            refine lv_iload_n hx hb dX12_findRules_161 rfl (lv_at hl 1 rfl) ?_
                            refine lM_12_24 hx hb hK hP (f := (fa 12 24)) rfl (vp_in_iff.mpr ⟨by omega, by omega⟩) dX12_findRules_162 ?_
                            refine lv_topi (fun v11919 ev11919 => ?_)
                            refine lv_icmp_le (tgt := 186) hx hb dX12_findRules_163 (by decide) (fun c11920 => ?_) (fun c11920 => ?_)
                            · have fc11920 := z_le (rfl : (v11918).toInt = _) (rfl : (v11919).toInt = _) c11920
                              refine lv_aload_n hx hb dX12_findRules_186 rfl (lv_at hl 2 rfl) ?_
                              refine gM_12_40 hx hb ht hown hK hP m_1179 dX12_findRules_187 ?_
                              refine lv_iload_n hx hb dX12_findRules_190 rfl (lv_at hl 0 rfl) ?_
                              refine lv_iload_n hx hb dX12_findRules_191 rfl (lv_at hl 1 rfl) ?_
                              have : 0 ≤ (x11910_3 : Int32).toInt ∧ (x11910_3 : Int32).toInt ≤ 7 := ⟨by omega, by omega⟩
                              refine tM_12_40 hx hb hK hP hD hS (f0 := w11910_a_12_40) rfl (i := x11910_3) (x := x11870_2) (vp_in_iff.mpr ⟨by omega, by omega⟩) dX12_findRules_192 (fun f11921 ef11921 H locs hP hD hS => ?_)
                              have hf11921 : ∀ j, inb (bA 12 40 j) (f11921 j) := by rw [ef11921]; exact upd_b (b := bA 12 40) hw11910_a_12_40 (show inb (0, 7) x11870_2 from ⟨by omega, by omega⟩)
                              have hP : va_P (dC, dI) classes (WM h g ca (u2 iv 12 41 w11870_i_12_41) lv (u2 (u2 fa 12 39 w11395_a_12_39) 12 40 f11921) la) H := hP
                              have hD : va_D A (WM h g ca (u2 iv 12 41 w11870_i_12_41) lv (u2 (u2 fa 12 39 w11395_a_12_39) 12 40 f11921) la) := hD
                              refine lv_aload_n hx hb dX12_findRules_193 rfl (lv_at hl 2 rfl) ?_
                              refine lv_dup hx hb dX12_findRules_194 rfl ?_
                              refine gM_12_41 hx hb ht hown hK hP m_1180 (v := w11870_i_12_41) rfl dX12_findRules_195 ?_
                              refine lv_iconst (v := 1) hx hb dX12_findRules_198 (by decide) ?_
                              refine lv_iadd hx hb dX12_findRules_199 ?_
                              refine lv_topi (fun v11922 ev11922 => ?_)
                              have tv11922 := z_add ev11922 (rfl : (w11870_i_12_41).toInt = _) (by decide : (1 : Int32).toInt = 1) (by omega) (by omega)
                              have : 0 ≤ (v11922 : Int32).toInt ∧ (v11922 : Int32).toInt ≤ 8 := ⟨by omega, by omega⟩
                              refine pM_12_41 (v := v11922) hx hb ht hown hK hP hD hS m_1180 dX12_findRules_200 (fun H locs hP hD hS => ?_)
                              have hP : va_P (dC, dI) classes (WM h g ca (u2 iv 12 41 v11922) lv (u2 (u2 fa 12 39 w11395_a_12_39) 12 40 f11921) la) H := hP
                              have hD : va_D A (WM h g ca (u2 iv 12 41 v11922) lv (u2 (u2 fa 12 39 w11395_a_12_39) 12 40 f11921) la) := hD
                              obtain ⟨v11923, ev11923⟩ : ∃ y : Int32, y = x11870_2 + 1 := ⟨_, rfl⟩
                              have tv11923 := z_add ev11923 rfl (by decide : (1 : Int32).toInt = 1) (by omega) (by omega)
                              refine lv_iinc (v := v11923) (lv' := [(2, .int v11923), (3, .int x11910_3), (0, .ref h), (1, .int a)]) hx hb dX12_findRules_203 hl (k := 1) rfl (by rw [ev11923]; rfl) (by decide) rfl (fun ls hl => ?_)
                              refine lv_goto (tgt := 118) hx hb dX12_findRules_206 (by decide) ?_
                              exact ih11871 v11923 v11922 f11921 ⟨by omega, by omega⟩ ⟨by omega, by omega⟩ hf11921 (show ∀ j : Nat, (j : Int) < (v11922 : Int32).toInt → (f11921 j).toInt < ((iv 12 23) : Int32).toInt from (fun j h => by
                                    rw [ef11921]
                                    by_cases hj : j = (x11910_3 : Int32).toNatClampNeg
                                    · rw [hj, upd_eq]; omega
                                    · rw [upd_ne hj]; have hj2 : j ≠ (x11910_3 : Int32).toInt.toNat := hj; exact hq11911_0 j (by omega) (by omega))) (show OrK (v11923 : Int32).toInt (fun r => (w11395_a_12_39 r).toInt = 1) (fa 12 24) f11921 (v11922 : Int32).toInt from (by
                                    have ho9 := congrArg Int32.toInt (show v11873 = w11395_a_12_39 ((x11870_2 : Int32).toInt).toNat from ev11873)
                                    obtain ⟨g9, ga, gb⟩ := hq11911_1
                                    have he9 : (v11916 : Int32).toNatClampNeg = ((x11910_3 : Int32).toInt - 1).toNat := by show (v11916 : Int32).toInt.toNat = _; omega
                                    have hp9 : v11917 = w11910_a_12_40 ((x11910_3 : Int32).toInt - 1).toNat := by rw [← he9]; exact ev11917
                                    have hd1 := congrArg Int32.toInt (show v11918 = fa 12 24 ((v11917 : Int32).toInt).toNat from ev11918)
                                    have hd2 := congrArg Int32.toInt (show v11919 = fa 12 24 ((x11870_2 : Int32).toInt).toNat from ev11919)
                                    rw [hp9] at hd1
                                    exact OrK_y (k := (x11870_2 : Int32).toInt) (i := (x11910_3 : Int32).toInt) (by omega) (by omega) (by omega) (by omega) (by omega) (show (w11395_a_12_39 ((x11870_2 : Int32).toInt).toNat).toInt = 1 from by omega) (fun t ht => by rw [ef11921, upd_ne (show t ≠ (x11910_3 : Int32).toNatClampNeg from ht)]) (by rw [ef11921, show ((x11910_3 : Int32).toInt).toNat = (x11910_3 : Int32).toNatClampNeg from rfl, upd_eq]) (Or.inr (by omega)) gb ga)) (show (v11922 : Int32).toInt ≤ (v11923 : Int32).toInt from by omega) (show 0 ≤ (v11922 : Int32).toInt from by omega) (show (v11923 : Int32).toInt ≤ ((iv 12 23) : Int32).toInt from by omega) (by omega) _ _ ls hP hD hS (lv_sub hl [0, 2, 3] rfl)
                            · have fc11920 := z_nle (rfl : (v11918).toInt = _) (rfl : (v11919).toInt = _) c11920
                              refine lv_aload_n hx hb dX12_findRules_166 rfl (lv_at hl 2 rfl) ?_
                              refine gM_12_40 hx hb ht hown hK hP m_1179 dX12_findRules_167 ?_
                              refine lv_iload_n hx hb dX12_findRules_170 rfl (lv_at hl 0 rfl) ?_
                              refine lv_aload_n hx hb dX12_findRules_171 rfl (lv_at hl 2 rfl) ?_
                              refine gM_12_40 hx hb ht hown hK hP m_1179 dX12_findRules_172 ?_
                              refine lv_iload_n hx hb dX12_findRules_175 rfl (lv_at hl 0 rfl) ?_
                              refine lv_iconst (v := 1) hx hb dX12_findRules_176 (by decide) ?_
                              refine lv_isub hx hb dX12_findRules_177 ?_
                              refine lv_topi (fun v11924 ev11924 => ?_)
                              obtain rfl : v11916 = v11924 := ev11916.trans ev11924.symm
                              refine lM_12_40 hx hb hK hP (f := w11910_a_12_40) rfl (vp_in_iff.mpr ⟨by omega, by omega⟩) dX12_findRules_178 ?_
                              refine lv_topi (fun v11925 ev11925 => ?_)
                              obtain rfl : v11917 = v11925 := ev11917.trans ev11925.symm
                              have : 0 ≤ (x11910_3 : Int32).toInt ∧ (x11910_3 : Int32).toInt ≤ 7 := ⟨by omega, by omega⟩
                              refine tM_12_40 hx hb hK hP hD hS (f0 := w11910_a_12_40) rfl (i := x11910_3) (x := v11917) (vp_in_iff.mpr ⟨by omega, by omega⟩) dX12_findRules_179 (fun f11926 ef11926 H locs hP hD hS => ?_)
                              have hf11926 : ∀ j, inb (bA 12 40 j) (f11926 j) := by rw [ef11926]; exact upd_b (b := bA 12 40) hw11910_a_12_40 (show inb (0, 7) v11917 from ⟨by omega, by omega⟩)
                              have hP : va_P (dC, dI) classes (WM h g ca (u2 iv 12 41 w11870_i_12_41) lv (u2 (u2 fa 12 39 w11395_a_12_39) 12 40 f11926) la) H := hP
                              have hD : va_D A (WM h g ca (u2 iv 12 41 w11870_i_12_41) lv (u2 (u2 fa 12 39 w11395_a_12_39) 12 40 f11926) la) := hD
                              obtain ⟨v11927, ev11927⟩ : ∃ y : Int32, y = x11910_3 + (-1) := ⟨_, rfl⟩
                              have tv11927 := z_add ev11927 rfl (by decide : ((-1) : Int32).toInt = (-1)) (by omega) (by omega)
                              refine lv_iinc (v := v11927) (lv' := [(3, .int v11927), (2, .int x11870_2), (0, .ref h), (1, .int a)]) hx hb dX12_findRules_180 hl (k := 0) rfl (by rw [ev11927]; rfl) (by decide) rfl (fun ls hl => ?_)
                              refine lv_goto (tgt := 140) hx hb dX12_findRules_183 (by decide) ?_
                              exact ih11911 v11927 f11926 ⟨by omega, by omega⟩ hf11926 (show ∀ j : Nat, (j : Int) ≤ (w11870_i_12_41 : Int32).toInt → (j : Int) ≠ (v11927 : Int32).toInt → (f11926 j).toInt < ((iv 12 23) : Int32).toInt from (fun j h1 h2 => by
                                    rw [ef11926]
                                    by_cases hj : j = (x11910_3 : Int32).toNatClampNeg
                                    · rw [hj, upd_eq, ev11917]; exact hq11911_0 _ (by show (((v11916 : Int32).toInt.toNat : Nat) : Int) ≤ _; omega) (by show (((v11916 : Int32).toInt.toNat : Nat) : Int) ≠ _; omega)
                                    · rw [upd_ne hj]; have hj2 : j ≠ (x11910_3 : Int32).toInt.toNat := hj; exact hq11911_0 j h1 (by omega))) (show ∃ g : Nat → Int32, OrK (x11870_2 : Int32).toInt (fun r => (w11395_a_12_39 r).toInt = 1) (fa 12 24) g (w11870_i_12_41 : Int32).toInt ∧ Shf (fa 12 24) g f11926 ((fa 12 24) ((x11870_2 : Int32).toInt).toNat).toInt (v11927 : Int32).toInt (w11870_i_12_41 : Int32).toInt from (by
                                    obtain ⟨g9, ga, gb⟩ := hq11911_1
                                    have he9 : (v11916 : Int32).toNatClampNeg = ((v11927 : Int32).toInt).toNat := by show (v11916 : Int32).toInt.toNat = _; omega
                                    have hp9 : v11917 = w11910_a_12_40 ((v11927 : Int32).toInt).toNat := by rw [← he9]; exact ev11917
                                    have hd1 := congrArg Int32.toInt (show v11918 = fa 12 24 ((v11917 : Int32).toInt).toNat from ev11918)
                                    have hd2 := congrArg Int32.toInt (show v11919 = fa 12 24 ((x11870_2 : Int32).toInt).toNat from ev11919)
                                    rw [hp9] at hd1
                                    exact ⟨g9, ga, Shf_s (i := (x11910_3 : Int32).toInt) (by omega) (by omega) (by omega) (by omega) (fun t ht => by rw [ef11926, upd_ne (show t ≠ (x11910_3 : Int32).toNatClampNeg from ht)]) (by rw [ef11926, show ((x11910_3 : Int32).toInt).toNat = (x11910_3 : Int32).toNatClampNeg from rfl, upd_eq]; exact hp9) gb⟩)) (show (v11927 : Int32).toInt ≤ (w11870_i_12_41 : Int32).toInt from by omega) (show 0 ≤ (v11927 : Int32).toInt from by omega) (by omega) _ _ ls hP hD hS (lv_sub hl [0, 1, 2, 3] rfl)
                      exact lp11911 9 w11870_i_12_41 w11870_a_12_40 ⟨by omega, by omega⟩ hw11870_a_12_40 (show ∀ j : Nat, (j : Int) ≤ (w11870_i_12_41 : Int32).toInt → (j : Int) ≠ (w11870_i_12_41 : Int32).toInt → (w11870_a_12_40 j).toInt < ((iv 12 23) : Int32).toInt from (fun j h1 h2 => hq11871_0 j (by omega))) (show ∃ g : Nat → Int32, OrK (x11870_2 : Int32).toInt (fun r => (w11395_a_12_39 r).toInt = 1) (fa 12 24) g (w11870_i_12_41 : Int32).toInt ∧ Shf (fa 12 24) g w11870_a_12_40 ((fa 12 24) ((x11870_2 : Int32).toInt).toNat).toInt (w11870_i_12_41 : Int32).toInt (w11870_i_12_41 : Int32).toInt from ⟨_, hq11871_1, Shf_0⟩) (show (w11870_i_12_41 : Int32).toInt ≤ (w11870_i_12_41 : Int32).toInt from by omega) (show 0 ≤ (w11870_i_12_41 : Int32).toInt from by omega) (by first | decide | omega) _ _ ls hP hD hS (lv_sub hl [0, 1, 2, 3] rfl)
              have : (0 : Int32).toInt = 0 := (by decide)
              exact lp11871 9 0 0 (fa 12 40) ⟨by decide, by decide⟩ ⟨by decide, by decide⟩ (hI.2 12 40) (show ∀ j : Nat, (j : Int) < (0 : Int32).toInt → ((fa 12 40) j).toInt < ((iv 12 23) : Int32).toInt from fun j h => by omega) (show OrK (0 : Int32).toInt (fun r => (w11395_a_12_39 r).toInt = 1) (fa 12 24) (fa 12 40) (0 : Int32).toInt from (by have hz : (0 : Int32).toInt = 0 := (by decide); rw [hz]; exact OrK_0)) (show (0 : Int32).toInt ≤ (0 : Int32).toInt from by omega) (show 0 ≤ (0 : Int32).toInt from by omega) (show (0 : Int32).toInt ≤ ((iv 12 23) : Int32).toInt from by omega) (by first | decide | omega) _ _ ls hP hD hS (lv_sub hl [0, 1, 2] rfl)
            · have fc11397 := z_nlt (rfl : (x11395_2).toInt = _) (by decide : (0 : Int32).toInt = 0) c11397
              refine lv_bipush (v := 12) hx hb dX12_findRules_48 (by decide) ?_
              refine lv_iload_n hx hb dX12_findRules_50 rfl (lv_at hl 0 rfl) ?_
              refine lv_imul hx hb dX12_findRules_51 ?_
              refine lv_topi (fun v11928 ev11928 => ?_)
              have tv11928 := z_mul ev11928 (by decide : (12 : Int32).toInt = 12) (rfl : (x11395_2).toInt = _) (by omega) (by omega)
              have hb9 : 0 ≤ (fa 12 25 ((x11395_2 : Int32).toInt).toNat).toInt ∧ (fa 12 25 ((x11395_2 : Int32).toInt).toNat).toInt ≤ 12 := hI.2 12 25 _
              refine lv_istore_n (lv' := [(3, .int v11928), (2, .int x11395_2), (0, .ref h), (1, .int a)]) hx hb dX12_findRules_52 rfl hl (by decide) rfl (fun ls hl => ?_)
              have lp11975 : ∀ (nn11975 : Nat) (x11974_3 : Int32) (w11974_a_12_39 : Nat → Int32), 0 ≤ x11974_3.toInt ∧ x11974_3.toInt ≤ 96 → (∀ j, inb (bA 12 39 j) (w11974_a_12_39 j)) → (∃ g : Nat → Int32, Pa ((iv 12 23) : Int32).toInt (x11395_2 : Int32).toInt g (fa 12 24) (St (fa 12 25) (mX (fa 12 26) 3) (fa 12 28)) (a).toInt ∧ Pb ((iv 12 23) : Int32).toInt (x11395_2 : Int32).toInt g w11974_a_12_39 (mX (fa 12 26) 3) (fa 12 28) (x11974_3 : Int32).toInt) → 12 * (x11395_2 : Int32).toInt ≤ (x11974_3 : Int32).toInt → (x11974_3 : Int32).toInt ≤ 12 * (x11395_2 : Int32).toInt + ((fa 12 25) ((x11395_2 : Int32).toInt).toNat).toInt → 96 - x11974_3.toInt < (nn11975 : Int) → ∀ (H : Heap) (locs : List Loc), ∀ (ls : Array Slot), va_P (dC, dI) classes (WM h g ca iv lv (u2 fa 12 39 w11974_a_12_39) la) H → va_D A (WM h g ca iv lv (u2 fa 12 39 w11974_a_12_39) la) → va_S A s.heap H locs → lv_has ls 4 [(3, .int x11974_3), (2, .int x11395_2), (0, .ref h), (1, .int a)] → W p l e ({ frames := 0, cells := 0, slots := 0, locals := 0 } : Room) s m ([.ref h, .int a] : List Value).toArray below meth c H locs 0 0 (MQ below (va_Qv (fun (u : SS) => ∃ (na_12_39 : Nat → Int32) (na_12_40 : Nat → Int32) (ni_12_41 : Int32), (∀ j, inb (bA 12 39 j) (na_12_39 j)) ∧ (∀ j, inb (bA 12 40 j) (na_12_40 j)) ∧ inb (bI 12 41) ni_12_41 ∧ (∀ j : Nat, (j : Int) < (ni_12_41).toInt → (na_12_40 j).toInt < (iv 12 23).toInt) ∧ ((ni_12_41).toInt ≤ (iv 12 23).toInt) ∧ (OnR (iv 12 23).toInt (fun r => (na_12_39 r).toInt = 1) (fa 12 24) (St (fa 12 25) (mX (fa 12 26) 3) (fa 12 28)) a.toInt) ∧ (OrK (iv 12 23).toInt (fun r => (na_12_39 r).toInt = 1) (fa 12 24) na_12_40 (ni_12_41).toInt) ∧ u = ((u2 iv 12 41 ni_12_41), lv, (u2 (u2 fa 12 39 na_12_39) 12 40 na_12_40), la)) (bM (dC, dI) h g ca A) A) ([.ref h, .int a] : List Value).toArray s 0 0 A) (F0 m 53 ls []) := by
                intro nn11975
                induction nn11975 with
                | zero => intro x11974_3 w11974_a_12_39 hx11974_3 hw11974_a_12_39 hq11975_0 hq11975_1 hq11975_2 hm11975; exfalso; omega
                | succ nn11975 ih11975 =>
                  intro x11974_3 w11974_a_12_39 hx11974_3 hw11974_a_12_39 hq11975_0 hq11975_1 hq11975_2 hm11975 H locs ls hP hD hS hl
                  refine lv_iload_n hx hb dX12_findRules_53 rfl (lv_at hl 0 rfl) ?_
                  refine lv_bipush (v := 12) hx hb dX12_findRules_54 (by decide) ?_
                  refine lv_iload_n hx hb dX12_findRules_56 rfl (lv_at hl 1 rfl) ?_
                  refine lv_imul hx hb dX12_findRules_57 ?_
                  refine lv_topi (fun v11976 ev11976 => ?_)
                  obtain rfl : v11928 = v11976 := ev11928.trans ev11976.symm
                  refine lv_aload_n hx hb dX12_findRules_58 rfl (lv_at hl 2 rfl) ?_
                  refine gM_12_25 hx hb ht hown hK hP m_1164 dX12_findRules_59 ?_
                  refine lv_iload_n hx hb dX12_findRules_62 rfl (lv_at hl 1 rfl) ?_
                  refine lM_12_25 hx hb hK hP (f := (fa 12 25)) rfl (vp_in_iff.mpr ⟨by omega, by omega⟩) dX12_findRules_63 ?_
                  refine lv_topi (fun v11977 ev11977 => ?_)
                  have tv11977 : 0 ≤ v11977.toInt ∧ v11977.toInt ≤ 12 := by rw [ev11977]; exact hI.2 12 25 _
                  have hn9 := congrArg Int32.toInt (show v11977 = fa 12 25 ((x11395_2 : Int32).toInt).toNat from ev11977)
                  refine lv_iadd hx hb dX12_findRules_64 ?_
                  refine lv_topi (fun v11978 ev11978 => ?_)
                  have tv11978 := z_add ev11978 (rfl : (v11928).toInt = _) (rfl : (v11977).toInt = _) (by omega) (by omega)
                  refine lv_icmp_ge (tgt := 105) hx hb dX12_findRules_65 (by decide) (fun c11979 => ?_) (fun c11979 => ?_)
                  · have fc11979 := z_le (rfl : (v11978).toInt = _) (rfl : (x11974_3).toInt = _) c11979
                    obtain ⟨v11980, ev11980⟩ : ∃ y : Int32, y = x11395_2 + (-1) := ⟨_, rfl⟩
                    have tv11980 := z_add ev11980 rfl (by decide : ((-1) : Int32).toInt = (-1)) (by omega) (by omega)
                    refine lv_iinc (v := v11980) (lv' := [(2, .int v11980), (3, .int x11974_3), (0, .ref h), (1, .int a)]) hx hb dX12_findRules_105 hl (k := 1) rfl (by rw [ev11980]; rfl) (by decide) rfl (fun ls hl => ?_)
                    refine lv_goto (tgt := 44) hx hb dX12_findRules_108 (by decide) ?_
                    exact ih11396 v11980 w11974_a_12_39 ⟨by omega, by omega⟩ hw11974_a_12_39 (show Pa ((iv 12 23) : Int32).toInt (v11980 : Int32).toInt w11974_a_12_39 (fa 12 24) (St (fa 12 25) (mX (fa 12 26) 3) (fa 12 28)) (a).toInt from (by
                          obtain ⟨g9, ga, gb⟩ := hq11975_0
                          have hn9 := congrArg Int32.toInt (show v11977 = fa 12 25 ((x11395_2 : Int32).toInt).toNat from ev11977)
                          have hk9 : ((((x11395_2 : Int32).toInt).toNat : Nat) : Int) = (x11395_2 : Int32).toInt := Int.toNat_of_nonneg (by omega)
                          exact Pb_end (k := (x11395_2 : Int32).toInt) (c := (x11974_3 : Int32).toInt) (by omega) (by omega) (by omega) (fun j h1 h2 h3 => by have h5 := hJK ((x11395_2 : Int32).toInt).toNat j (by omega) (by omega) (by omega) h3; omega) (Or.inl (by omega)) ga gb)) (show (v11980 : Int32).toInt + 1 ≤ ((iv 12 23) : Int32).toInt from by omega) (show -1 ≤ (v11980 : Int32).toInt from by omega) (by omega) _ _ ls hP hD hS (lv_sub hl [0, 2, 3] rfl)
                  · have fc11979 := z_nle (rfl : (v11978).toInt = _) (rfl : (x11974_3).toInt = _) c11979
                    refine lv_aload_n hx hb dX12_findRules_68 rfl (lv_at hl 2 rfl) ?_
                    refine gM_12_39 hx hb ht hown hK hP m_1178 dX12_findRules_69 ?_
                    refine lv_iload_n hx hb dX12_findRules_72 rfl (lv_at hl 1 rfl) ?_
                    refine lM_12_39 hx hb hK hP (f := w11974_a_12_39) rfl (vp_in_iff.mpr ⟨by omega, by omega⟩) dX12_findRules_73 ?_
                    refine lv_topi (fun v11981 ev11981 => ?_)
                    have tv11981 : 0 ≤ v11981.toInt ∧ v11981.toInt ≤ 1 := by rw [ev11981]; exact hw11974_a_12_39 _
                    refine lv_if_eq (tgt := 105) hx hb dX12_findRules_74 (by decide) (fun c11982 => ?_) (fun c11982 => ?_)
                    · have fc11982 := z_eq (rfl : (v11981).toInt = _) (by decide : (0 : Int32).toInt = 0) c11982
                      obtain ⟨v11983, ev11983⟩ : ∃ y : Int32, y = x11395_2 + (-1) := ⟨_, rfl⟩
                      have tv11983 := z_add ev11983 rfl (by decide : ((-1) : Int32).toInt = (-1)) (by omega) (by omega)
                      refine lv_iinc (v := v11983) (lv' := [(2, .int v11983), (3, .int x11974_3), (0, .ref h), (1, .int a)]) hx hb dX12_findRules_105 hl (k := 1) rfl (by rw [ev11983]; rfl) (by decide) rfl (fun ls hl => ?_)
                      refine lv_goto (tgt := 44) hx hb dX12_findRules_108 (by decide) ?_
                      exact ih11396 v11983 w11974_a_12_39 ⟨by omega, by omega⟩ hw11974_a_12_39 (show Pa ((iv 12 23) : Int32).toInt (v11983 : Int32).toInt w11974_a_12_39 (fa 12 24) (St (fa 12 25) (mX (fa 12 26) 3) (fa 12 28)) (a).toInt from (by
                            obtain ⟨g9, ga, gb⟩ := hq11975_0
                            have hn9 := congrArg Int32.toInt (show v11977 = fa 12 25 ((x11395_2 : Int32).toInt).toNat from ev11977)
                            have hk9 : ((((x11395_2 : Int32).toInt).toNat : Nat) : Int) = (x11395_2 : Int32).toInt := Int.toNat_of_nonneg (by omega)
                            exact Pb_end (k := (x11395_2 : Int32).toInt) (c := (x11974_3 : Int32).toInt) (by omega) (by omega) (by omega) (fun j h1 h2 h3 => by have h5 := hJK ((x11395_2 : Int32).toInt).toNat j (by omega) (by omega) (by omega) h3; omega) (Or.inr (by have ho9 := congrArg Int32.toInt (show v11981 = w11974_a_12_39 ((x11395_2 : Int32).toInt).toNat from ev11981); omega)) ga gb)) (show (v11983 : Int32).toInt + 1 ≤ ((iv 12 23) : Int32).toInt from by omega) (show -1 ≤ (v11983 : Int32).toInt from by omega) (by omega) _ _ ls hP hD hS (lv_sub hl [0, 2, 3] rfl)
                    · have fc11982 := z_ne (rfl : (v11981).toInt = _) (by decide : (0 : Int32).toInt = 0) c11982
                      refine lv_aload_n hx hb dX12_findRules_77 rfl (lv_at hl 2 rfl) ?_
                      refine gM_12_26 hx hb ht hown hK hP m_1165 dX12_findRules_78 ?_
                      refine lv_iload_n hx hb dX12_findRules_81 rfl (lv_at hl 0 rfl) ?_
                      refine lM_12_26 hx hb hK hP (f := (fa 12 26)) rfl (vp_in_iff.mpr ⟨by omega, by omega⟩) dX12_findRules_82 ?_
                      refine lv_topi (fun v11984 ev11984 => ?_)
                      refine lv_iconst (v := 3) hx hb dX12_findRules_83 (by decide) ?_
                      refine lv_icmp_ne (tgt := 99) hx hb dX12_findRules_84 (by decide) (fun c11985 => ?_) (fun c11985 => ?_)
                      · have fc11985 := z_ne (rfl : (v11984).toInt = _) (by decide : (3 : Int32).toInt = 3) c11985
                        obtain ⟨v11986, ev11986⟩ : ∃ y : Int32, y = x11974_3 + 1 := ⟨_, rfl⟩
                        have tv11986 := z_add ev11986 rfl (by decide : (1 : Int32).toInt = 1) (by omega) (by omega)
                        refine lv_iinc (v := v11986) (lv' := [(3, .int v11986), (2, .int x11395_2), (0, .ref h), (1, .int a)]) hx hb dX12_findRules_99 hl (k := 0) rfl (by rw [ev11986]; rfl) (by decide) rfl (fun ls hl => ?_)
                        refine lv_goto (tgt := 53) hx hb dX12_findRules_102 (by decide) ?_
                        exact ih11975 v11986 w11974_a_12_39 ⟨by omega, by omega⟩ hw11974_a_12_39 (show ∃ g : Nat → Int32, Pa ((iv 12 23) : Int32).toInt (x11395_2 : Int32).toInt g (fa 12 24) (St (fa 12 25) (mX (fa 12 26) 3) (fa 12 28)) (a).toInt ∧ Pb ((iv 12 23) : Int32).toInt (x11395_2 : Int32).toInt g w11974_a_12_39 (mX (fa 12 26) 3) (fa 12 28) (v11986 : Int32).toInt from (by
                              obtain ⟨g9, ga, gb⟩ := hq11975_0
                              have hv9 := congrArg Int32.toInt (show v11984 = fa 12 26 ((x11974_3 : Int32).toInt).toNat from ev11984)
                              have ho9 := congrArg Int32.toInt (show v11981 = w11974_a_12_39 ((x11395_2 : Int32).toInt).toNat from ev11981)
                              exact ⟨g9, ga, Pb_n (j := ((x11974_3 : Int32).toInt).toNat) (c := (x11974_3 : Int32).toInt) (by omega) (by omega) (show ¬ (fa 12 26 ((x11974_3 : Int32).toInt).toNat).toInt = 3 from by omega) gb⟩)) (show 12 * (x11395_2 : Int32).toInt ≤ (v11986 : Int32).toInt from by omega) (show (v11986 : Int32).toInt ≤ 12 * (x11395_2 : Int32).toInt + ((fa 12 25) ((x11395_2 : Int32).toInt).toNat).toInt from by omega) (by omega) _ _ ls hP hD hS (lv_sub hl [0, 1, 2, 3] rfl)
                      · have fc11985 := z_eq (rfl : (v11984).toInt = _) (by decide : (3 : Int32).toInt = 3) c11985
                        refine lv_aload_n hx hb dX12_findRules_87 rfl (lv_at hl 2 rfl) ?_
                        refine gM_12_39 hx hb ht hown hK hP m_1178 dX12_findRules_88 ?_
                        refine lv_aload_n hx hb dX12_findRules_91 rfl (lv_at hl 2 rfl) ?_
                        refine gM_12_28 hx hb ht hown hK hP m_1167 dX12_findRules_92 ?_
                        refine lv_iload_n hx hb dX12_findRules_95 rfl (lv_at hl 0 rfl) ?_
                        refine lM_12_28 hx hb hK hP (f := (fa 12 28)) rfl (vp_in_iff.mpr ⟨by omega, by omega⟩) dX12_findRules_96 ?_
                        refine lv_topi (fun v11987 ev11987 => ?_)
                        refine lv_iconst (v := 0) hx hb dX12_findRules_97 (by decide) ?_
                        have gq := hJC x11395_2 x11974_3 (by omega) (by omega) (by omega) (by rw [← ev11977]; omega)
                        rw [← ev11984, ← ev11987] at gq
                        have gq2 := gq.1 (by omega)
                        refine tM_12_39 hx hb hK hP hD hS (f0 := w11974_a_12_39) rfl (i := v11987) (x := 0) (vp_in_iff.mpr ⟨by omega, by omega⟩) dX12_findRules_98 (fun f11988 ef11988 H locs hP hD hS => ?_)
                        have hf11988 : ∀ j, inb (bA 12 39 j) (f11988 j) := by rw [ef11988]; exact upd_b (b := bA 12 39) hw11974_a_12_39 (show inb (0, 1) (vp_nar .boolean 0) from ⟨by decide, by decide⟩)
                        have hP : va_P (dC, dI) classes (WM h g ca iv lv (u2 fa 12 39 f11988) la) H := hP
                        have hD : va_D A (WM h g ca iv lv (u2 fa 12 39 f11988) la) := hD
                        obtain ⟨v11989, ev11989⟩ : ∃ y : Int32, y = x11974_3 + 1 := ⟨_, rfl⟩
                        have tv11989 := z_add ev11989 rfl (by decide : (1 : Int32).toInt = 1) (by omega) (by omega)
                        refine lv_iinc (v := v11989) (lv' := [(3, .int v11989), (2, .int x11395_2), (0, .ref h), (1, .int a)]) hx hb dX12_findRules_99 hl (k := 0) rfl (by rw [ev11989]; rfl) (by decide) rfl (fun ls hl => ?_)
                        refine lv_goto (tgt := 53) hx hb dX12_findRules_102 (by decide) ?_
                        exact ih11975 v11989 f11988 ⟨by omega, by omega⟩ hf11988 (show ∃ g : Nat → Int32, Pa ((iv 12 23) : Int32).toInt (x11395_2 : Int32).toInt g (fa 12 24) (St (fa 12 25) (mX (fa 12 26) 3) (fa 12 28)) (a).toInt ∧ Pb ((iv 12 23) : Int32).toInt (x11395_2 : Int32).toInt g f11988 (mX (fa 12 26) 3) (fa 12 28) (v11989 : Int32).toInt from (by
                              obtain ⟨g9, ga, gb⟩ := hq11975_0
                              have hv9 := congrArg Int32.toInt (show v11984 = fa 12 26 ((x11974_3 : Int32).toInt).toNat from ev11984)
                              have ho9 := congrArg Int32.toInt (show v11981 = w11974_a_12_39 ((x11395_2 : Int32).toInt).toNat from ev11981)
                              have hn9 := congrArg Int32.toInt (show v11977 = fa 12 25 ((x11395_2 : Int32).toInt).toNat from ev11977)
                              have hk9 : ((((x11395_2 : Int32).toInt).toNat : Nat) : Int) = (x11395_2 : Int32).toInt := Int.toNat_of_nonneg (by omega)
                              have hx9 := congrArg Int32.toInt (show v11987 = fa 12 28 ((x11974_3 : Int32).toInt).toNat from ev11987)
                              have hi9 : ((fa 12 28 ((x11974_3 : Int32).toInt).toNat).toInt).toNat = (v11987 : Int32).toNatClampNeg := by show _ = (v11987 : Int32).toInt.toNat; omega
                              have h5 := hJK ((x11395_2 : Int32).toInt).toNat ((x11974_3 : Int32).toInt).toNat (by omega) (by omega) (by omega) (by omega)
                              exact ⟨g9, ga, Pb_y (j := ((x11974_3 : Int32).toInt).toNat) (c := (x11974_3 : Int32).toInt) (by omega) (by omega) (by omega) (show (fa 12 26 ((x11974_3 : Int32).toInt).toNat).toInt = 3 from by omega) (by omega) (by omega) ⟨by omega, by omega⟩ (fun r hr => by rw [hi9] at hr; rw [ef11988, upd_ne hr]) (by rw [hi9, ef11988, upd_eq]; decide) gb⟩)) (show 12 * (x11395_2 : Int32).toInt ≤ (v11989 : Int32).toInt from by omega) (show (v11989 : Int32).toInt ≤ 12 * (x11395_2 : Int32).toInt + ((fa 12 25) ((x11395_2 : Int32).toInt).toNat).toInt from by omega) (by omega) _ _ ls hP hD hS (lv_sub hl [0, 1, 2, 3] rfl)
              exact lp11975 97 v11928 w11395_a_12_39 ⟨by omega, by omega⟩ hw11395_a_12_39 (show ∃ g : Nat → Int32, Pa ((iv 12 23) : Int32).toInt (x11395_2 : Int32).toInt g (fa 12 24) (St (fa 12 25) (mX (fa 12 26) 3) (fa 12 28)) (a).toInt ∧ Pb ((iv 12 23) : Int32).toInt (x11395_2 : Int32).toInt g w11395_a_12_39 (mX (fa 12 26) 3) (fa 12 28) (v11928 : Int32).toInt from ⟨_, hq11396_0, (by rw [show (v11928 : Int32).toInt = 12 * (x11395_2 : Int32).toInt from by omega]; exact Pb_0)⟩) (show 12 * (x11395_2 : Int32).toInt ≤ (v11928 : Int32).toInt from by omega) (show (v11928 : Int32).toInt ≤ 12 * (x11395_2 : Int32).toInt + ((fa 12 25) ((x11395_2 : Int32).toInt).toNat).toInt from by omega) (by first | decide | omega) _ _ ls hP hD hS (lv_sub hl [0, 1, 2, 3] rfl)
        exact lp11396 9 v10206 w10203_a_12_39 ⟨by omega, by omega⟩ hw10203_a_12_39 (show Pa ((iv 12 23) : Int32).toInt (v10206 : Int32).toInt w10203_a_12_39 (fa 12 24) (St (fa 12 25) (mX (fa 12 26) 3) (fa 12 28)) (a).toInt from (by have hq9 := Pa_0 (n := (iv 12 23).toInt) (st := (St (fa 12 25) (mX (fa 12 26) 3) (fa 12 28))) (fun r hr => hq10204_0 r (by omega)); have he9 : (v10206 : Int32).toInt = (iv 12 23).toInt - 1 := (by omega); rw [he9]; exact hq9)) (show (v10206 : Int32).toInt + 1 ≤ ((iv 12 23) : Int32).toInt from by omega) (show -1 ≤ (v10206 : Int32).toInt from by omega) (by first | decide | omega) _ _ ls hP hD hS (lv_sub hl [0, 1, 2] rfl)
      · have fc10205 := z_nle (rfl : ((iv 12 23)).toInt = _) (rfl : (x10203_2).toInt = _) c10205
        refine lv_aload_n hx hb dX12_findRules_10 rfl (lv_at hl 1 rfl) ?_
        refine gM_12_39 hx hb ht hown hK hP m_1178 dX12_findRules_11 ?_
        refine lv_iload_n hx hb dX12_findRules_14 rfl (lv_at hl 0 rfl) ?_
        refine lv_aload_n hx hb dX12_findRules_15 rfl (lv_at hl 1 rfl) ?_
        refine gM_12_24 hx hb ht hown hK hP m_1163 dX12_findRules_16 ?_
        refine lv_iload_n hx hb dX12_findRules_19 rfl (lv_at hl 0 rfl) ?_
        refine lM_12_24 hx hb hK hP (f := (fa 12 24)) rfl (vp_in_iff.mpr ⟨by omega, by omega⟩) dX12_findRules_20 ?_
        refine lv_topi (fun v11990 ev11990 => ?_)
        refine lv_iload_n hx hb dX12_findRules_21 rfl (lv_at hl 2 rfl) ?_
        refine lv_icmp_gt (tgt := 29) hx hb dX12_findRules_22 (by decide) (fun c11991 => ?_) (fun c11991 => ?_)
        · have fc11991 := z_lt (rfl : (a).toInt = _) (rfl : (v11990).toInt = _) c11991
          refine lv_iconst (v := 0) hx hb dX12_findRules_29 (by decide) ?_
          refine tM_12_39 hx hb hK hP hD hS (f0 := w10203_a_12_39) rfl (i := x10203_2) (x := 0) (vp_in_iff.mpr ⟨by omega, by omega⟩) dX12_findRules_30 (fun f11992 ef11992 H locs hP hD hS => ?_)
          have hf11992 : ∀ j, inb (bA 12 39 j) (f11992 j) := by rw [ef11992]; exact upd_b (b := bA 12 39) hw10203_a_12_39 (show inb (0, 1) (vp_nar .boolean 0) from ⟨by decide, by decide⟩)
          have hP : va_P (dC, dI) classes (WM h g ca iv lv (u2 fa 12 39 f11992) la) H := hP
          have hD : va_D A (WM h g ca iv lv (u2 fa 12 39 f11992) la) := hD
          obtain ⟨v11993, ev11993⟩ : ∃ y : Int32, y = x10203_2 + 1 := ⟨_, rfl⟩
          have tv11993 := z_add ev11993 rfl (by decide : (1 : Int32).toInt = 1) (by omega) (by omega)
          refine lv_iinc (v := v11993) (lv' := [(2, .int v11993), (0, .ref h), (1, .int a)]) hx hb dX12_findRules_31 hl (k := 0) rfl (by rw [ev11993]; rfl) (by decide) rfl (fun ls hl => ?_)
          refine lv_goto (tgt := 2) hx hb dX12_findRules_34 (by decide) ?_
          exact ih10204 v11993 f11992 ⟨by omega, by omega⟩ hf11992 (show ∀ r : Nat, (r : Int) < (v11993 : Int32).toInt → ((f11992 r).toInt = 1 ↔ ((fa 12 24) r).toInt ≤ (a).toInt) from (fun r h => by
                by_cases hj : (r : Int) < (x10203_2 : Int32).toInt
                · rw [ef11992, upd_ne (by show r ≠ (x10203_2 : Int32).toInt.toNat; omega)]; exact hq10204_0 r hj
                · have hj2 : r = ((x10203_2 : Int32).toInt).toNat := by omega
                  have hv9 := congrArg Int32.toInt (show v11990 = fa 12 24 ((x10203_2 : Int32).toInt).toNat from ev11990)
                  have hw9 : (f11992 ((x10203_2 : Int32).toInt).toNat).toInt = 0 := by rw [ef11992, show ((x10203_2 : Int32).toInt).toNat = (x10203_2 : Int32).toNatClampNeg from rfl, upd_eq]; decide
                  rw [hj2]
                  omega)) (show (v11993 : Int32).toInt ≤ ((iv 12 23) : Int32).toInt from by omega) (by omega) _ _ ls hP hD hS (lv_sub hl [0, 1, 2] rfl)
        · have fc11991 := z_nlt (rfl : (a).toInt = _) (rfl : (v11990).toInt = _) c11991
          refine lv_iconst (v := 1) hx hb dX12_findRules_25 (by decide) ?_
          refine lv_goto (tgt := 30) hx hb dX12_findRules_26 (by decide) ?_
          refine tM_12_39 hx hb hK hP hD hS (f0 := w10203_a_12_39) rfl (i := x10203_2) (x := 1) (vp_in_iff.mpr ⟨by omega, by omega⟩) dX12_findRules_30 (fun f11994 ef11994 H locs hP hD hS => ?_)
          have hf11994 : ∀ j, inb (bA 12 39 j) (f11994 j) := by rw [ef11994]; exact upd_b (b := bA 12 39) hw10203_a_12_39 (show inb (0, 1) (vp_nar .boolean 1) from ⟨by decide, by decide⟩)
          have hP : va_P (dC, dI) classes (WM h g ca iv lv (u2 fa 12 39 f11994) la) H := hP
          have hD : va_D A (WM h g ca iv lv (u2 fa 12 39 f11994) la) := hD
          obtain ⟨v11995, ev11995⟩ : ∃ y : Int32, y = x10203_2 + 1 := ⟨_, rfl⟩
          have tv11995 := z_add ev11995 rfl (by decide : (1 : Int32).toInt = 1) (by omega) (by omega)
          refine lv_iinc (v := v11995) (lv' := [(2, .int v11995), (0, .ref h), (1, .int a)]) hx hb dX12_findRules_31 hl (k := 0) rfl (by rw [ev11995]; rfl) (by decide) rfl (fun ls hl => ?_)
          refine lv_goto (tgt := 2) hx hb dX12_findRules_34 (by decide) ?_
          exact ih10204 v11995 f11994 ⟨by omega, by omega⟩ hf11994 (show ∀ r : Nat, (r : Int) < (v11995 : Int32).toInt → ((f11994 r).toInt = 1 ↔ ((fa 12 24) r).toInt ≤ (a).toInt) from (fun r h => by
                by_cases hj : (r : Int) < (x10203_2 : Int32).toInt
                · rw [ef11994, upd_ne (by show r ≠ (x10203_2 : Int32).toInt.toNat; omega)]; exact hq10204_0 r hj
                · have hj2 : r = ((x10203_2 : Int32).toInt).toNat := by omega
                  have hv9 := congrArg Int32.toInt (show v11990 = fa 12 24 ((x10203_2 : Int32).toInt).toNat from ev11990)
                  have hw9 : (f11994 ((x10203_2 : Int32).toInt).toNat).toInt = 1 := by rw [ef11994, show ((x10203_2 : Int32).toInt).toNat = (x10203_2 : Int32).toNatClampNeg from rfl, upd_eq]; decide
                  rw [hj2]
                  omega)) (show (v11995 : Int32).toInt ≤ ((iv 12 23) : Int32).toInt from by omega) (by omega) _ _ ls hP hD hS (lv_sub hl [0, 1, 2] rfl)
  have : (0 : Int32).toInt = 0 := (by decide)
  have i_12_23 : 0 ≤ (iv 12 23).toInt ∧ (iv 12 23).toInt ≤ 8 := hI.1 12 23
  exact lp10204 9 0 (fa 12 39) ⟨by decide, by decide⟩ (hI.2 12 39) (show ∀ r : Nat, (r : Int) < (0 : Int32).toInt → (((fa 12 39) r).toInt = 1 ↔ ((fa 12 24) r).toInt ≤ (a).toInt) from fun r h => absurd h (by omega)) (show (0 : Int32).toInt ≤ ((iv 12 23) : Int32).toInt from by omega) (by first | decide | omega) _ _ ls hP hD hS (lv_sub hl [0, 1, 2] rfl)
/-! ===== bk5 ===== -/
set_option maxHeartbeats 4000000 in
set_option maxRecDepth 100000 in
/-- X12_atFirst -/
theorem c_X12_atFirst_f (l : Launch) (dC : Nat → ClassId) (dI : Nat → Nat → Nat) (a : Int32) (h_a : 0 ≤ a.toInt ∧ a.toInt ≤ 5) : Met l yX12_atFirst (wc yX12_atFirst cX12_atFirst 1 (some .int)) ({ frames := 0, cells := 0, slots := 0, locals := 0 } : Room) (pR (dC, dI) classes [] [] [.int a]) (vp_Si (fun r => (0 ≤ r.toInt ∧ r.toInt ≤ 110) ∧ (r.toInt = aF a.toInt))) 0 0 (fun _ => False) := by
  refine Met.ofW (cc := cX12_atFirst) (maxL := 1) (ret := (some .int)) (by decide) rfl ?_
  intro p e s m args below meth c s₁ B hml hv
  obtain ⟨rfl, hP, hK⟩ := hv
  have hx := B.exec
  have hb := B.bytes
  have hr := B.returns
  have ht := tb_tl (atoms_spec (ws := wc yX12_atFirst cX12_atFirst 1 (some .int)) B.pre)
  have hown : s.vm.findClass RX12 = some m.cls := findClass_of_methodNamed B.named
  have hlocks := B.notSynchronized
  have hl := lv_entry [.int a] (n := 1) (Nat.le_of_ble_eq_true rfl)
  rw [lg_entry_eq]
  generalize (lg_sl [.int a] ++ List.replicate (1 - (lg_sl [.int a]).length) Slot.unset).toArray = ls at hl ⊢
  have hl : lv_has ls 1 [(0, .int a)] := hl
  refine lv_iload_n hx hb dX12_atFirst_0 rfl (lv_at hl 0 rfl) ?_
  rcases sw_0_4 a with h1 | rfl | rfl | rfl | rfl | rfl
  · refine lv_tableOut (tgt := 48) hx hb dX12_atFirst_1 h1 (by decide) ?_
    refine lv_iconst (v := 0) hx hb dX12_atFirst_48 (by decide) ?_
    have : (0 : Int32).toInt = 0 := (by decide)
    exact W.iret (v := 0) hx hb hr (fun t ht9 hW => ⟨0, rfl, ⟨⟨by decide, by decide⟩, (show (0 : Int32).toInt = aF (a).toInt from (by rw [show a.toInt = 5 from by omega]; decide))⟩, ht9⟩) (fun q hq => by cases hq) dX12_atFirst_49
  · refine lv_tableIn (tgt := 36) (off := 35) hx hb dX12_atFirst_1 (by decide) (by decide) rfl (by decide) ?_
    refine lv_bipush (v := 110) hx hb dX12_atFirst_36 (by decide) ?_
    have : (110 : Int32).toInt = 110 := (by decide)
    have : (0 : Int32).toInt = 0 := (by decide)
    exact W.iret (v := 110) hx hb hr (fun t ht9 hW => ⟨110, rfl, ⟨⟨by decide, by decide⟩, (show (110 : Int32).toInt = aF (0 : Int32).toInt from (by decide))⟩, ht9⟩) (fun q hq => by cases hq) dX12_atFirst_38
  · refine lv_tableIn (tgt := 39) (off := 38) hx hb dX12_atFirst_1 (by decide) (by decide) rfl (by decide) ?_
    refine lv_iconst (v := 3) hx hb dX12_atFirst_39 (by decide) ?_
    have : (3 : Int32).toInt = 3 := (by decide)
    have : (1 : Int32).toInt = 1 := (by decide)
    exact W.iret (v := 3) hx hb hr (fun t ht9 hW => ⟨3, rfl, ⟨⟨by decide, by decide⟩, (show (3 : Int32).toInt = aF (1 : Int32).toInt from (by decide))⟩, ht9⟩) (fun q hq => by cases hq) dX12_atFirst_40
  · refine lv_tableIn (tgt := 41) (off := 40) hx hb dX12_atFirst_1 (by decide) (by decide) rfl (by decide) ?_
    refine lv_iconst (v := 5) hx hb dX12_atFirst_41 (by decide) ?_
    have : (5 : Int32).toInt = 5 := (by decide)
    have : (2 : Int32).toInt = 2 := (by decide)
    exact W.iret (v := 5) hx hb hr (fun t ht9 hW => ⟨5, rfl, ⟨⟨by decide, by decide⟩, (show (5 : Int32).toInt = aF (2 : Int32).toInt from (by decide))⟩, ht9⟩) (fun q hq => by cases hq) dX12_atFirst_42
  · refine lv_tableIn (tgt := 43) (off := 42) hx hb dX12_atFirst_1 (by decide) (by decide) rfl (by decide) ?_
    refine lv_iconst (v := 2) hx hb dX12_atFirst_43 (by decide) ?_
    have : (2 : Int32).toInt = 2 := (by decide)
    have : (3 : Int32).toInt = 3 := (by decide)
    exact W.iret (v := 2) hx hb hr (fun t ht9 hW => ⟨2, rfl, ⟨⟨by decide, by decide⟩, (show (2 : Int32).toInt = aF (3 : Int32).toInt from (by decide))⟩, ht9⟩) (fun q hq => by cases hq) dX12_atFirst_44
  · refine lv_tableIn (tgt := 45) (off := 44) hx hb dX12_atFirst_1 (by decide) (by decide) rfl (by decide) ?_
    refine lv_bipush (v := 10) hx hb dX12_atFirst_45 (by decide) ?_
    have : (10 : Int32).toInt = 10 := (by decide)
    have : (4 : Int32).toInt = 4 := (by decide)
    exact W.iret (v := 10) hx hb hr (fun t ht9 hW => ⟨10, rfl, ⟨⟨by decide, by decide⟩, (show (10 : Int32).toInt = aF (4 : Int32).toInt from (by decide))⟩, ht9⟩) (fun q hq => by cases hq) dX12_atFirst_47
set_option maxHeartbeats 4000000 in
set_option maxRecDepth 100000 in
/-- X12_forceOf -/
theorem c_X12_forceOf_f (l : Launch) (dC : Nat → ClassId) (dI : Nat → Nat → Nat) (sz : Nat) (h : Nat) (g : Nat → Nat → Nat) (ca : Nat → Nat → ClassId) (iv : Nat → Nat → Int32) (lv : Nat → Nat → Int64) (fa : Nat → Nat → Nat → Int32) (la : Nat → Nat → Nat → Int64) (hI : IX iv fa) (a : Int32) (b : Int32) (h_a : 0 ≤ a.toInt ∧ a.toInt ≤ 5) (hJC : JCf (iv 12 23).toInt (fa 12 25) (fa 12 26) (fa 12 27) (fa 12 28)) (hJK : ∀ k j : Nat, (k : Int) < (iv 12 23).toInt → 12 * k ≤ j → (j : Int) < 12 * (k : Int) + (fa 12 25 k).toInt → (fa 12 26 j).toInt = 3 → 0 ≤ (fa 12 28 j).toInt ∧ (fa 12 28 j).toInt < (k : Int)) : Met l yX12_forceOf (wc yX12_forceOf cX12_forceOf 7 (some .int)) ({ frames := 1, cells := 0, slots := 0, locals := 23 } : Room) (pW (dC, dI) classes (WM h g ca iv lv fa la) (TM ca) sz [.ref h, .int a, .int b]) (va_Qi (fun r (u : SS) => ∃ (na_12_39 : Nat → Int32) (na_12_40 : Nat → Int32) (ni_12_41 : Int32), (∀ j, inb (bA 12 39 j) (na_12_39 j)) ∧ (∀ j, inb (bA 12 40 j) (na_12_40 j)) ∧ inb (bI 12 41) ni_12_41 ∧ (FoY (iv 12 23).toInt (fa 12 24) (fa 12 25) (fa 12 26) (fa 12 27) (fa 12 28) a.toInt b.toInt r.toInt) ∧ (True) ∧ u = ((u2 iv 12 41 ni_12_41), lv, (u2 (u2 fa 12 39 na_12_39) 12 40 na_12_40), la)) (bM (dC, dI) h g ca (va_A (WM h g ca iv lv fa la) sz)) (va_A (WM h g ca iv lv fa la) sz)) 0 0 (va_A (WM h g ca iv lv fa la) sz) := by
  refine Met.ofW (cc := cX12_forceOf) (maxL := 7) (ret := (some .int)) (by decide) rfl ?_
  intro p e s m args below meth c s₁ B hml hv
  obtain ⟨rfl, hsz, hP, hK, hD0⟩ := hv
  have hx := B.exec
  have hb := B.bytes
  have hr := B.returns
  have ht := tb_tl (atoms_spec (ws := wc yX12_forceOf cX12_forceOf 7 (some .int)) B.pre)
  have hown : s.vm.findClass RX12 = some m.cls := findClass_of_methodNamed B.named
  have hlocks := B.notSynchronized
  subst hsz
  have hD := hD0.self (sz := s.heap.size)
  generalize hAe : va_A (WM h g ca iv lv fa la) s.heap.size = A at hD ⊢
  have hA : ∀ q : Nat, s.heap.size ≤ q → A q := fun q h => by rw [← hAe]; exact Or.inr h
  have hS : va_S A s.heap s.heap [] := va_S.rf
  have hl := lv_entry [.ref h, .int a, .int b] (n := 7) (Nat.le_of_ble_eq_true rfl)
  rw [lg_entry_eq]
  generalize (lg_sl [.ref h, .int a, .int b] ++ List.replicate (7 - (lg_sl [.ref h, .int a, .int b]).length) Slot.unset).toArray = ls at hl ⊢
  have hl : lv_has ls 7 [(0, .ref h), (1, .int a), (2, .int b)] := hl
  refine lv_aload_n hx hb dX12_forceOf_0 rfl (lv_at hl 0 rfl) ?_
  refine lv_iload_n hx hb dX12_forceOf_1 rfl (lv_at hl 2 rfl) ?_
  have hFc := free_all hD hS hA
  refine va_callv (va_runV (As := [.int b]) (rest := []) ⟨hx, hb, hml, hown, ht⟩ (c_X12_findRules_f l dC dI s.heap.size h g ca iv lv fa la hI b hJC hJK) (kV 1 ht m_1513 m_1515 m_56 m_89 m_1516 rfl rfl hd_X12_findRules_v ⟨Nat.le_of_ble_eq_true rfl, Nat.le_of_ble_eq_true rfl⟩) (vW hP hK hD (rM_12 hK hP)) rfl rfl hl.1 rfl (lv_room (Nat.le_of_ble_eq_true rfl)) dX12_forceOf_2 ⟨Nat.le_of_ble_eq_true rfl, Nat.le_of_ble_eq_true rfl⟩) hS (fun q _ h => hFc q h) hFc (fun u t H1 locs ht9 hvm hr1 hB hz1 hk1 hS => ?_)
  obtain ⟨n2, n3, n4, hn2, hn3, hn4, xr1_0, xr1_1, xr1_2, xr1_3, rfl⟩ := hr1
  have hn4 : 0 ≤ n4.toInt ∧ n4.toInt ≤ 8 := hn4
  obtain ⟨hP, hD⟩ := hB
  rw [ht9] at hP
  generalize H1 = H at hP hS ⊢
  have hP : va_P (dC, dI) classes (WM h g ca (u2 iv 12 41 n4) lv (u2 (u2 fa 12 39 n2) 12 40 n3) la) H := hP
  have hD : va_D A (WM h g ca (u2 iv 12 41 n4) lv (u2 (u2 fa 12 39 n2) 12 40 n3) la) := (show va_D _ (WM h g ca (u2 iv 12 41 n4) lv (u2 (u2 fa 12 39 n2) 12 40 n3) la) from hD).weaken (fun _ _ _ h => hFc _ h)
  have i_12_23 : 0 ≤ (iv 12 23).toInt ∧ (iv 12 23).toInt ≤ 8 := hI.1 12 23
  have xr1_0 : ∀ j : Nat, (j : Int) < (n4 : Int32).toInt → (n3 j).toInt < ((iv 12 23) : Int32).toInt := xr1_0
  have xr1_1 : (n4 : Int32).toInt ≤ ((iv 12 23) : Int32).toInt := xr1_1
  have xr1_2 : OnR ((iv 12 23) : Int32).toInt (fun r => (n2 r).toInt = 1) (fa 12 24) (St (fa 12 25) (mX (fa 12 26) 3) (fa 12 28)) (b : Int32).toInt := xr1_2
  have xr1_3 : OrK ((iv 12 23) : Int32).toInt (fun r => (n2 r).toInt = 1) (fa 12 24) n3 (n4 : Int32).toInt := xr1_3
  refine lv_iload_n hx hb dX12_forceOf_5 rfl (lv_at hl 1 rfl) ?_
  refine vp_callSi (W.runS (As := [.int a]) (rest := []) ⟨hx, hb, hml, hown, ht⟩ (c_X12_atFirst_f l dC dI a ⟨by omega, by omega⟩) (kS 1 ht m_1517 m_1518 m_89 m_1519 rfl rfl hd_X12_atFirst_v ⟨Nat.le_of_ble_eq_true rfl, Nat.le_of_ble_eq_true rfl⟩) (sR noP (hK.sub (tys' := []) [] rfl)) rfl rfl hl.1 rfl (lv_room (Nat.le_of_ble_eq_true rfl)) dX12_forceOf_6 ⟨Nat.le_of_ble_eq_true rfl, Nat.le_of_ble_eq_true rfl⟩) (fun r5 hr5 => ?_)
  obtain ⟨hr5, xr5_0⟩ := hr5
  have xr5_0 : (r5 : Int32).toInt = aF (a : Int32).toInt := xr5_0
  refine lv_istore_n (lv' := [(3, .int r5), (0, .ref h), (1, .int a), (2, .int b)]) hx hb dX12_forceOf_9 rfl hl (by decide) rfl (fun ls hl => ?_)
  refine lv_iconst (v := 0) hx hb dX12_forceOf_10 (by decide) ?_
  refine lv_istore (lv' := [(4, .int 0), (3, .int r5), (0, .ref h), (1, .int a), (2, .int b)]) hx hb dX12_forceOf_11 hl (by decide) rfl (fun ls hl => ?_)
  have lp1024 : ∀ (nn1024 : Nat) (x1023_4 : Int32) (x1023_3 : Int32), 0 ≤ x1023_4.toInt ∧ x1023_4.toInt ≤ 8 → (SqO (fa 12 25) n3 (mY (fa 12 26) (fa 12 27) (a).toInt) (vI (fa 12 28)) (aF (a).toInt) (x1023_4 : Int32).toInt (x1023_3 : Int32).toInt) → (x1023_4 : Int32).toInt ≤ (n4 : Int32).toInt → 8 - x1023_4.toInt < (nn1024 : Int) → ∀ (H : Heap) (locs : List Loc), ∀ (ls : Array Slot), va_P (dC, dI) classes (WM h g ca (u2 iv 12 41 n4) lv (u2 (u2 fa 12 39 n2) 12 40 n3) la) H → va_D A (WM h g ca (u2 iv 12 41 n4) lv (u2 (u2 fa 12 39 n2) 12 40 n3) la) → va_S A s.heap H locs → lv_has ls 7 [(4, .int x1023_4), (3, .int x1023_3), (0, .ref h), (1, .int a), (2, .int b)] → W p l e ({ frames := 1, cells := 0, slots := 0, locals := 23 } : Room) s m ([.ref h, .int a, .int b] : List Value).toArray below meth c H locs 0 0 (MQ below (va_Qi (fun r (u : SS) => ∃ (na_12_39 : Nat → Int32) (na_12_40 : Nat → Int32) (ni_12_41 : Int32), (∀ j, inb (bA 12 39 j) (na_12_39 j)) ∧ (∀ j, inb (bA 12 40 j) (na_12_40 j)) ∧ inb (bI 12 41) ni_12_41 ∧ (FoY (iv 12 23).toInt (fa 12 24) (fa 12 25) (fa 12 26) (fa 12 27) (fa 12 28) a.toInt b.toInt r.toInt) ∧ (True) ∧ u = ((u2 iv 12 41 ni_12_41), lv, (u2 (u2 fa 12 39 na_12_39) 12 40 na_12_40), la)) (bM (dC, dI) h g ca A) A) ([.ref h, .int a, .int b] : List Value).toArray s 0 0 A) (F0 m 13 ls []) := by
    intro nn1024
    induction nn1024 with
    | zero => intro x1023_4 x1023_3 hx1023_4 hq1024_0 hq1024_1 hm1024; exfalso; omega
    | succ nn1024 ih1024 =>
      intro x1023_4 x1023_3 hx1023_4 hq1024_0 hq1024_1 hm1024 H locs ls hP hD hS hl
      refine lv_iload hx hb dX12_forceOf_13 (lv_at hl 0 rfl) ?_
      refine lv_aload_n hx hb dX12_forceOf_15 rfl (lv_at hl 2 rfl) ?_
      refine gM_12_41 hx hb ht hown hK hP m_1180 (v := n4) rfl dX12_forceOf_16 ?_
      refine lv_icmp_ge (tgt := 143) hx hb dX12_forceOf_19 (by decide) (fun c1025 => ?_) (fun c1025 => ?_)
      · have fc1025 := z_le (rfl : (n4).toInt = _) (rfl : (x1023_4).toInt = _) c1025
        refine lv_iload_n hx hb dX12_forceOf_143 rfl (lv_at hl 1 rfl) ?_
        have hP9 : va_P (dC, dI) classes (WM h g ca (u2 iv 12 41 n4) lv (u2 (u2 fa 12 39 n2) 12 40 n3) la) H := hP
        have hD9 : va_D A (WM h g ca (u2 iv 12 41 n4) lv (u2 (u2 fa 12 39 n2) 12 40 n3) la) := hD
        exact W.iret (v := x1023_3) hx hb hr (fun t ht9 hW => ⟨⟨x1023_3, ((u2 iv 12 41 n4), lv, (u2 (u2 fa 12 39 n2) 12 40 n3), la), rfl, ⟨n2, n3, n4, hn2, hn3, (show inb (0, 8) n4 from ⟨by omega, by omega⟩), (show FoY ((iv 12 23) : Int32).toInt (fa 12 24) (fa 12 25) (fa 12 26) (fa 12 27) (fa 12 28) (a).toInt (b).toInt (x1023_3 : Int32).toInt from (by have hq9 := hq1024_0; have he9 : (x1023_4 : Int32).toInt = (n4 : Int32).toInt := (by omega); rw [he9] at hq9; obtain ⟨s9, hs9⟩ := SqO_Best (by omega) xr1_3 hq9; exact ⟨_, s9, xr1_2, hs9⟩)), trivial, rfl⟩, by rw [ht9]; exact hP9, hD9⟩, hS.F ht9⟩) hS.2.2 dX12_forceOf_144
      · have fc1025 := z_nle (rfl : (n4).toInt = _) (rfl : (x1023_4).toInt = _) c1025
        refine lv_bipush (v := 12) hx hb dX12_forceOf_22 (by decide) ?_
        refine lv_aload_n hx hb dX12_forceOf_24 rfl (lv_at hl 2 rfl) ?_
        refine gM_12_40 hx hb ht hown hK hP m_1179 dX12_forceOf_25 ?_
        refine lv_iload hx hb dX12_forceOf_28 (lv_at hl 0 rfl) ?_
        refine lM_12_40 hx hb hK hP (f := n3) rfl (vp_in_iff.mpr ⟨by omega, by omega⟩) dX12_forceOf_30 ?_
        refine lv_topi (fun v1026 ev1026 => ?_)
        have tv1026 : 0 ≤ v1026.toInt ∧ v1026.toInt ≤ 7 := by rw [ev1026]; exact hn3 _
        refine lv_imul hx hb dX12_forceOf_31 ?_
        refine lv_topi (fun v1027 ev1027 => ?_)
        have tv1027 := z_mul ev1027 (by decide : (12 : Int32).toInt = 12) (rfl : (v1026).toInt = _) (by omega) (by omega)
        refine lv_istore (lv' := [(5, .int v1027), (4, .int x1023_4), (3, .int x1023_3), (0, .ref h), (1, .int a), (2, .int b)]) hx hb dX12_forceOf_32 hl (by decide) rfl (fun ls hl => ?_)
        have lp1110 : ∀ (nn1110 : Nat) (x1109_5 : Int32) (x1109_3 : Int32), 0 ≤ x1109_5.toInt ∧ x1109_5.toInt ≤ 96 → (SqI (fa 12 25) n3 (mY (fa 12 26) (fa 12 27) (a).toInt) (vI (fa 12 28)) (aF (a).toInt) (x1023_4 : Int32).toInt (12 * (n3 ((x1023_4 : Int32).toInt).toNat).toInt) (x1109_5 : Int32).toInt (x1109_3 : Int32).toInt) → (12 * (n3 ((x1023_4 : Int32).toInt).toNat).toInt ≤ (x1109_5 : Int32).toInt) → ((x1109_5 : Int32).toInt ≤ 12 * (n3 ((x1023_4 : Int32).toInt).toNat).toInt + ((fa 12 25) ((n3 ((x1023_4 : Int32).toInt).toNat).toInt).toNat).toInt) → 96 - x1109_5.toInt < (nn1110 : Int) → ∀ (H : Heap) (locs : List Loc), ∀ (ls : Array Slot), va_P (dC, dI) classes (WM h g ca (u2 iv 12 41 n4) lv (u2 (u2 fa 12 39 n2) 12 40 n3) la) H → va_D A (WM h g ca (u2 iv 12 41 n4) lv (u2 (u2 fa 12 39 n2) 12 40 n3) la) → va_S A s.heap H locs → lv_has ls 7 [(5, .int x1109_5), (4, .int x1023_4), (3, .int x1109_3), (0, .ref h), (1, .int a), (2, .int b)] → W p l e ({ frames := 1, cells := 0, slots := 0, locals := 23 } : Room) s m ([.ref h, .int a, .int b] : List Value).toArray below meth c H locs 0 0 (MQ below (va_Qi (fun r (u : SS) => ∃ (na_12_39 : Nat → Int32) (na_12_40 : Nat → Int32) (ni_12_41 : Int32), (∀ j, inb (bA 12 39 j) (na_12_39 j)) ∧ (∀ j, inb (bA 12 40 j) (na_12_40 j)) ∧ inb (bI 12 41) ni_12_41 ∧ (FoY (iv 12 23).toInt (fa 12 24) (fa 12 25) (fa 12 26) (fa 12 27) (fa 12 28) a.toInt b.toInt r.toInt) ∧ (True) ∧ u = ((u2 iv 12 41 ni_12_41), lv, (u2 (u2 fa 12 39 na_12_39) 12 40 na_12_40), la)) (bM (dC, dI) h g ca A) A) ([.ref h, .int a, .int b] : List Value).toArray s 0 0 A) (F0 m 34 ls []) := by
          intro nn1110
          induction nn1110 with
          | zero => intro x1109_5 x1109_3 hx1109_5 hq1110_0 hq1110_1 hq1110_2 hm1110; exfalso; omega
          | succ nn1110 ih1110 =>
            intro x1109_5 x1109_3 hx1109_5 hq1110_0 hq1110_1 hq1110_2 hm1110 H locs ls hP hD hS hl
            refine lv_iload hx hb dX12_forceOf_34 (lv_at hl 0 rfl) ?_
            refine lv_bipush (v := 12) hx hb dX12_forceOf_36 (by decide) ?_
            refine lv_aload_n hx hb dX12_forceOf_38 rfl (lv_at hl 3 rfl) ?_
            refine gM_12_40 hx hb ht hown hK hP m_1179 dX12_forceOf_39 ?_
            refine lv_iload hx hb dX12_forceOf_42 (lv_at hl 1 rfl) ?_
            refine lM_12_40 hx hb hK hP (f := n3) rfl (vp_in_iff.mpr ⟨by omega, by omega⟩) dX12_forceOf_44 ?_
            refine lv_topi (fun v1111 ev1111 => ?_)
            obtain rfl : v1026 = v1111 := ev1026.trans ev1111.symm
            refine lv_imul hx hb dX12_forceOf_45 ?_
            refine lv_topi (fun v1112 ev1112 => ?_)
            obtain rfl : v1027 = v1112 := ev1027.trans ev1112.symm
            refine lv_aload_n hx hb dX12_forceOf_46 rfl (lv_at hl 3 rfl) ?_
            refine gM_12_25 hx hb ht hown hK hP m_1164 dX12_forceOf_47 ?_
            refine lv_aload_n hx hb dX12_forceOf_50 rfl (lv_at hl 3 rfl) ?_
            refine gM_12_40 hx hb ht hown hK hP m_1179 dX12_forceOf_51 ?_
            refine lv_iload hx hb dX12_forceOf_54 (lv_at hl 1 rfl) ?_
            refine lM_12_40 hx hb hK hP (f := n3) rfl (vp_in_iff.mpr ⟨by omega, by omega⟩) dX12_forceOf_56 ?_
            refine lv_topi (fun v1113 ev1113 => ?_)
            obtain rfl : v1026 = v1113 := ev1026.trans ev1113.symm
            refine lM_12_25 hx hb hK hP (f := (fa 12 25)) rfl (vp_in_iff.mpr ⟨by omega, by omega⟩) dX12_forceOf_57 ?_
            refine lv_topi (fun v1114 ev1114 => ?_)
            have tv1114 : 0 ≤ v1114.toInt ∧ v1114.toInt ≤ 12 := by rw [ev1114]; exact hI.2 12 25 _
            refine lv_iadd hx hb dX12_forceOf_58 ?_
            refine lv_topi (fun v1115 ev1115 => ?_)
            have tv1115 := z_add ev1115 (rfl : (v1027).toInt = _) (rfl : (v1114).toInt = _) (by omega) (by omega)
            refine lv_icmp_ge (tgt := 137) hx hb dX12_forceOf_59 (by decide) (fun c1116 => ?_) (fun c1116 => ?_)
            · have fc1116 := z_le (rfl : (v1115).toInt = _) (rfl : (x1109_5).toInt = _) c1116
              obtain ⟨v1117, ev1117⟩ : ∃ y : Int32, y = x1023_4 + 1 := ⟨_, rfl⟩
              have tv1117 := z_add ev1117 rfl (by decide : (1 : Int32).toInt = 1) (by omega) (by omega)
              refine lv_iinc (v := v1117) (lv' := [(4, .int v1117), (5, .int x1109_5), (3, .int x1109_3), (0, .ref h), (1, .int a), (2, .int b)]) hx hb dX12_forceOf_137 hl (k := 1) rfl (by rw [ev1117]; rfl) (by decide) rfl (fun ls hl => ?_)
              refine lv_goto (tgt := 13) hx hb dX12_forceOf_140 (by decide) ?_
              exact ih1024 v1117 x1109_3 ⟨by omega, by omega⟩ (show SqO (fa 12 25) n3 (mY (fa 12 26) (fa 12 27) (a).toInt) (vI (fa 12 28)) (aF (a).toInt) (v1117 : Int32).toInt (x1109_3 : Int32).toInt from (by
                    have hp9 : v1026 = n3 ((x1023_4 : Int32).toInt).toNat := ev1026
                    have hn9 := congrArg Int32.toInt (show v1114 = fa 12 25 ((v1026 : Int32).toInt).toNat from ev1114)
                    rw [hp9] at hn9
                    have hp8 := congrArg Int32.toInt hp9
                    exact SqI_end (i := (x1023_4 : Int32).toInt) (lo := 12 * (n3 ((x1023_4 : Int32).toInt).toNat).toInt) (c := (x1109_5 : Int32).toInt) (by omega) (by omega) (by omega) (by omega) hq1110_0)) (show (v1117 : Int32).toInt ≤ (n4 : Int32).toInt from by omega) (by omega) _ _ ls hP hD hS (lv_sub hl [0, 2, 3, 4, 5] rfl)
            · have fc1116 := z_nle (rfl : (v1115).toInt = _) (rfl : (x1109_5).toInt = _) c1116
              refine lv_iload_n hx hb dX12_forceOf_62 rfl (lv_at hl 4 rfl) ?_
              refine lv_iconst (v := 5) hx hb dX12_forceOf_63 (by decide) ?_
              refine lv_icmp_ne (tgt := 86) hx hb dX12_forceOf_64 (by decide) (fun c1118 => ?_) (fun c1118 => ?_)
              · have fc1118 := z_ne (rfl : (a).toInt = _) (by decide : (5 : Int32).toInt = 5) c1118
                refine lv_aload_n hx hb dX12_forceOf_86 rfl (lv_at hl 3 rfl) ?_
                refine gM_12_26 hx hb ht hown hK hP m_1165 dX12_forceOf_87 ?_
                refine lv_iload hx hb dX12_forceOf_90 (lv_at hl 0 rfl) ?_
                refine lM_12_26 hx hb hK hP (f := (fa 12 26)) rfl (vp_in_iff.mpr ⟨by omega, by omega⟩) dX12_forceOf_92 ?_
                refine lv_topi (fun v1119 ev1119 => ?_)
                refine lv_if_ne (tgt := 111) hx hb dX12_forceOf_93 (by decide) (fun c1120 => ?_) (fun c1120 => ?_)
                · have fc1120 := z_ne (rfl : (v1119).toInt = _) (by decide : (0 : Int32).toInt = 0) c1120
                  refine lv_iconst (v := 0) hx hb dX12_forceOf_111 (by decide) ?_
                  refine lv_istore (lv' := [(6, .int 0), (5, .int x1109_5), (4, .int x1023_4), (3, .int x1109_3), (0, .ref h), (1, .int a), (2, .int b)]) hx hb dX12_forceOf_112 hl (by decide) rfl (fun ls hl => ?_)
                  refine lv_iload hx hb dX12_forceOf_114 (lv_at hl 0 rfl) ?_
                  refine lv_if_eq (tgt := 129) hx hb dX12_forceOf_116 (by decide) (fun c1121 => ?_) (fun c1121 => ?_)
                  · skip
                    refine lv_iload_n hx hb dX12_forceOf_129 rfl (lv_at hl 3 rfl) ?_
                    refine lv_istore_n (lv' := [(3, .int x1109_3), (6, .int 0), (5, .int x1109_5), (4, .int x1023_4), (0, .ref h), (1, .int a), (2, .int b)]) hx hb dX12_forceOf_130 rfl hl (by decide) rfl (fun ls hl => ?_)
                    obtain ⟨v1122, ev1122⟩ : ∃ y : Int32, y = x1109_5 + 1 := ⟨_, rfl⟩
                    have tv1122 := z_add ev1122 rfl (by decide : (1 : Int32).toInt = 1) (by omega) (by omega)
                    refine lv_iinc (v := v1122) (lv' := [(5, .int v1122), (3, .int x1109_3), (6, .int 0), (4, .int x1023_4), (0, .ref h), (1, .int a), (2, .int b)]) hx hb dX12_forceOf_131 hl (k := 2) rfl (by rw [ev1122]; rfl) (by decide) rfl (fun ls hl => ?_)
                    refine lv_goto (tgt := 34) hx hb dX12_forceOf_134 (by decide) ?_
                    exact ih1110 v1122 x1109_3 ⟨by omega, by omega⟩ (show SqI (fa 12 25) n3 (mY (fa 12 26) (fa 12 27) (a).toInt) (vI (fa 12 28)) (aF (a).toInt) (x1023_4 : Int32).toInt (12 * (n3 ((x1023_4 : Int32).toInt).toNat).toInt) (v1122 : Int32).toInt (x1109_3 : Int32).toInt from (by
                          have hv9 := congrArg Int32.toInt (show v1119 = fa 12 26 ((x1109_5 : Int32).toInt).toNat from ev1119)
                          exact SqI_n (j := ((x1109_5 : Int32).toInt).toNat) (c := (x1109_5 : Int32).toInt) (by omega) (by omega) (show ¬ ((a.toInt = 5 ∧ (fa 12 26 ((x1109_5 : Int32).toInt).toNat).toInt = 1) ∨ (a.toInt ≠ 5 ∧ (fa 12 26 ((x1109_5 : Int32).toInt).toNat).toInt = 0 ∧ (fa 12 27 ((x1109_5 : Int32).toInt).toNat).toInt = a.toInt)) from by omega) hq1110_0)) (show 12 * (n3 ((x1023_4 : Int32).toInt).toNat).toInt ≤ (v1122 : Int32).toInt from (by have hq9 := hq1110_1; omega)) (show (v1122 : Int32).toInt ≤ 12 * (n3 ((x1023_4 : Int32).toInt).toNat).toInt + ((fa 12 25) ((n3 ((x1023_4 : Int32).toInt).toNat).toInt).toNat).toInt from (by have hp9 : v1026 = n3 ((x1023_4 : Int32).toInt).toNat := ev1026; have hn9 := congrArg Int32.toInt (show v1114 = fa 12 25 ((v1026 : Int32).toInt).toNat from ev1114); rw [hp9] at hn9; have hp8 := congrArg Int32.toInt hp9; omega)) (by omega) _ _ ls hP hD hS (lv_sub hl [0, 3, 1, 4, 5, 6] rfl)
                  · exact absurd rfl c1121
                · have fc1120 := z_eq (rfl : (v1119).toInt = _) (by decide : (0 : Int32).toInt = 0) c1120
                  refine lv_aload_n hx hb dX12_forceOf_96 rfl (lv_at hl 3 rfl) ?_
                  refine gM_12_27 hx hb ht hown hK hP m_1166 dX12_forceOf_97 ?_
                  refine lv_iload hx hb dX12_forceOf_100 (lv_at hl 0 rfl) ?_
                  refine lM_12_27 hx hb hK hP (f := (fa 12 27)) rfl (vp_in_iff.mpr ⟨by omega, by omega⟩) dX12_forceOf_102 ?_
                  refine lv_topi (fun v1123 ev1123 => ?_)
                  refine lv_iload_n hx hb dX12_forceOf_103 rfl (lv_at hl 4 rfl) ?_
                  refine lv_icmp_ne (tgt := 111) hx hb dX12_forceOf_104 (by decide) (fun c1124 => ?_) (fun c1124 => ?_)
                  · have fc1124 := z_ne (rfl : (v1123).toInt = _) (rfl : (a).toInt = _) c1124
                    refine lv_iconst (v := 0) hx hb dX12_forceOf_111 (by decide) ?_
                    refine lv_istore (lv' := [(6, .int 0), (5, .int x1109_5), (4, .int x1023_4), (3, .int x1109_3), (0, .ref h), (1, .int a), (2, .int b)]) hx hb dX12_forceOf_112 hl (by decide) rfl (fun ls hl => ?_)
                    refine lv_iload hx hb dX12_forceOf_114 (lv_at hl 0 rfl) ?_
                    refine lv_if_eq (tgt := 129) hx hb dX12_forceOf_116 (by decide) (fun c1125 => ?_) (fun c1125 => ?_)
                    · skip
                      refine lv_iload_n hx hb dX12_forceOf_129 rfl (lv_at hl 3 rfl) ?_
                      refine lv_istore_n (lv' := [(3, .int x1109_3), (6, .int 0), (5, .int x1109_5), (4, .int x1023_4), (0, .ref h), (1, .int a), (2, .int b)]) hx hb dX12_forceOf_130 rfl hl (by decide) rfl (fun ls hl => ?_)
                      obtain ⟨v1126, ev1126⟩ : ∃ y : Int32, y = x1109_5 + 1 := ⟨_, rfl⟩
                      have tv1126 := z_add ev1126 rfl (by decide : (1 : Int32).toInt = 1) (by omega) (by omega)
                      refine lv_iinc (v := v1126) (lv' := [(5, .int v1126), (3, .int x1109_3), (6, .int 0), (4, .int x1023_4), (0, .ref h), (1, .int a), (2, .int b)]) hx hb dX12_forceOf_131 hl (k := 2) rfl (by rw [ev1126]; rfl) (by decide) rfl (fun ls hl => ?_)
                      refine lv_goto (tgt := 34) hx hb dX12_forceOf_134 (by decide) ?_
                      exact ih1110 v1126 x1109_3 ⟨by omega, by omega⟩ (show SqI (fa 12 25) n3 (mY (fa 12 26) (fa 12 27) (a).toInt) (vI (fa 12 28)) (aF (a).toInt) (x1023_4 : Int32).toInt (12 * (n3 ((x1023_4 : Int32).toInt).toNat).toInt) (v1126 : Int32).toInt (x1109_3 : Int32).toInt from (by
                            have hv9 := congrArg Int32.toInt (show v1119 = fa 12 26 ((x1109_5 : Int32).toInt).toNat from ev1119)
                            have hm9 := congrArg Int32.toInt (show v1123 = fa 12 27 ((x1109_5 : Int32).toInt).toNat from ev1123)
                            exact SqI_n (j := ((x1109_5 : Int32).toInt).toNat) (c := (x1109_5 : Int32).toInt) (by omega) (by omega) (show ¬ ((a.toInt = 5 ∧ (fa 12 26 ((x1109_5 : Int32).toInt).toNat).toInt = 1) ∨ (a.toInt ≠ 5 ∧ (fa 12 26 ((x1109_5 : Int32).toInt).toNat).toInt = 0 ∧ (fa 12 27 ((x1109_5 : Int32).toInt).toNat).toInt = a.toInt)) from by omega) hq1110_0)) (show 12 * (n3 ((x1023_4 : Int32).toInt).toNat).toInt ≤ (v1126 : Int32).toInt from (by have hq9 := hq1110_1; omega)) (show (v1126 : Int32).toInt ≤ 12 * (n3 ((x1023_4 : Int32).toInt).toNat).toInt + ((fa 12 25) ((n3 ((x1023_4 : Int32).toInt).toNat).toInt).toNat).toInt from (by have hp9 : v1026 = n3 ((x1023_4 : Int32).toInt).toNat := ev1026; have hn9 := congrArg Int32.toInt (show v1114 = fa 12 25 ((v1026 : Int32).toInt).toNat from ev1114); rw [hp9] at hn9; have hp8 := congrArg Int32.toInt hp9; omega)) (by omega) _ _ ls hP hD hS (lv_sub hl [0, 3, 1, 4, 5, 6] rfl)
                    · exact absurd rfl c1125
                  · have fc1124 := z_eq (rfl : (v1123).toInt = _) (rfl : (a).toInt = _) c1124
                    refine lv_iconst (v := 1) hx hb dX12_forceOf_107 (by decide) ?_
                    refine lv_goto (tgt := 112) hx hb dX12_forceOf_108 (by decide) ?_
                    refine lv_istore (lv' := [(6, .int 1), (5, .int x1109_5), (4, .int x1023_4), (3, .int x1109_3), (0, .ref h), (1, .int a), (2, .int b)]) hx hb dX12_forceOf_112 hl (by decide) rfl (fun ls hl => ?_)
                    refine lv_iload hx hb dX12_forceOf_114 (lv_at hl 0 rfl) ?_
                    refine lv_if_eq (tgt := 129) hx hb dX12_forceOf_116 (by decide) (fun c1127 => ?_) (fun c1127 => ?_)
                    · exact absurd c1127 (by decide)
                    · skip
                      refine lv_aload_n hx hb dX12_forceOf_119 rfl (lv_at hl 4 rfl) ?_
                      refine gM_12_28 hx hb ht hown hK hP m_1167 dX12_forceOf_120 ?_
                      refine lv_iload hx hb dX12_forceOf_123 (lv_at hl 1 rfl) ?_
                      refine lM_12_28 hx hb hK hP (f := (fa 12 28)) rfl (vp_in_iff.mpr ⟨by omega, by omega⟩) dX12_forceOf_125 ?_
                      refine lv_topi (fun v1128 ev1128 => ?_)
                      refine lv_goto (tgt := 130) hx hb dX12_forceOf_126 (by decide) ?_
                      refine lv_istore_n (lv' := [(3, .int v1128), (6, .int 1), (5, .int x1109_5), (4, .int x1023_4), (0, .ref h), (1, .int a), (2, .int b)]) hx hb dX12_forceOf_130 rfl hl (by decide) rfl (fun ls hl => ?_)
                      obtain ⟨v1129, ev1129⟩ : ∃ y : Int32, y = x1109_5 + 1 := ⟨_, rfl⟩
                      have tv1129 := z_add ev1129 rfl (by decide : (1 : Int32).toInt = 1) (by omega) (by omega)
                      refine lv_iinc (v := v1129) (lv' := [(5, .int v1129), (3, .int v1128), (6, .int 1), (4, .int x1023_4), (0, .ref h), (1, .int a), (2, .int b)]) hx hb dX12_forceOf_131 hl (k := 2) rfl (by rw [ev1129]; rfl) (by decide) rfl (fun ls hl => ?_)
                      refine lv_goto (tgt := 34) hx hb dX12_forceOf_134 (by decide) ?_
                      exact ih1110 v1129 v1128 ⟨by omega, by omega⟩ (show SqI (fa 12 25) n3 (mY (fa 12 26) (fa 12 27) (a).toInt) (vI (fa 12 28)) (aF (a).toInt) (x1023_4 : Int32).toInt (12 * (n3 ((x1023_4 : Int32).toInt).toNat).toInt) (v1129 : Int32).toInt (v1128 : Int32).toInt from (by
                            have hv9 := congrArg Int32.toInt (show v1119 = fa 12 26 ((x1109_5 : Int32).toInt).toNat from ev1119)
                            have hm9 := congrArg Int32.toInt (show v1123 = fa 12 27 ((x1109_5 : Int32).toInt).toNat from ev1123)
                            exact SqI_y (j := ((x1109_5 : Int32).toInt).toNat) (c := (x1109_5 : Int32).toInt) (by omega) (by omega) (by omega) (show ((a.toInt = 5 ∧ (fa 12 26 ((x1109_5 : Int32).toInt).toNat).toInt = 1) ∨ (a.toInt ≠ 5 ∧ (fa 12 26 ((x1109_5 : Int32).toInt).toNat).toInt = 0 ∧ (fa 12 27 ((x1109_5 : Int32).toInt).toNat).toInt = a.toInt)) from by omega) (congrArg Int32.toInt (show v1128 = fa 12 28 ((x1109_5 : Int32).toInt).toNat from ev1128)))) (show 12 * (n3 ((x1023_4 : Int32).toInt).toNat).toInt ≤ (v1129 : Int32).toInt from (by have hq9 := hq1110_1; omega)) (show (v1129 : Int32).toInt ≤ 12 * (n3 ((x1023_4 : Int32).toInt).toNat).toInt + ((fa 12 25) ((n3 ((x1023_4 : Int32).toInt).toNat).toInt).toNat).toInt from (by have hp9 : v1026 = n3 ((x1023_4 : Int32).toInt).toNat := ev1026; have hn9 := congrArg Int32.toInt (show v1114 = fa 12 25 ((v1026 : Int32).toInt).toNat from ev1114); rw [hp9] at hn9; have hp8 := congrArg Int32.toInt hp9; omega)) (by omega) _ _ ls hP hD hS (lv_sub hl [0, 3, 1, 4, 5, 6] rfl)
              · have fc1118 := z_eq (rfl : (a).toInt = _) (by decide : (5 : Int32).toInt = 5) c1118
                refine lv_aload_n hx hb dX12_forceOf_67 rfl (lv_at hl 3 rfl) ?_
                refine gM_12_26 hx hb ht hown hK hP m_1165 dX12_forceOf_68 ?_
                refine lv_iload hx hb dX12_forceOf_71 (lv_at hl 0 rfl) ?_
                refine lM_12_26 hx hb hK hP (f := (fa 12 26)) rfl (vp_in_iff.mpr ⟨by omega, by omega⟩) dX12_forceOf_73 ?_
                refine lv_topi (fun v1130 ev1130 => ?_)
                refine lv_iconst (v := 1) hx hb dX12_forceOf_74 (by decide) ?_
                refine lv_icmp_ne (tgt := 82) hx hb dX12_forceOf_75 (by decide) (fun c1131 => ?_) (fun c1131 => ?_)
                · have fc1131 := z_ne (rfl : (v1130).toInt = _) (by decide : (1 : Int32).toInt = 1) c1131
                  refine lv_iconst (v := 0) hx hb dX12_forceOf_82 (by decide) ?_
                  refine lv_goto (tgt := 112) hx hb dX12_forceOf_83 (by decide) ?_
                  refine lv_istore (lv' := [(6, .int 0), (5, .int x1109_5), (4, .int x1023_4), (3, .int x1109_3), (0, .ref h), (1, .int a), (2, .int b)]) hx hb dX12_forceOf_112 hl (by decide) rfl (fun ls hl => ?_)
                  refine lv_iload hx hb dX12_forceOf_114 (lv_at hl 0 rfl) ?_
                  refine lv_if_eq (tgt := 129) hx hb dX12_forceOf_116 (by decide) (fun c1132 => ?_) (fun c1132 => ?_)
                  · skip
                    refine lv_iload_n hx hb dX12_forceOf_129 rfl (lv_at hl 3 rfl) ?_
                    refine lv_istore_n (lv' := [(3, .int x1109_3), (6, .int 0), (5, .int x1109_5), (4, .int x1023_4), (0, .ref h), (1, .int a), (2, .int b)]) hx hb dX12_forceOf_130 rfl hl (by decide) rfl (fun ls hl => ?_)
                    obtain ⟨v1133, ev1133⟩ : ∃ y : Int32, y = x1109_5 + 1 := ⟨_, rfl⟩
                    have tv1133 := z_add ev1133 rfl (by decide : (1 : Int32).toInt = 1) (by omega) (by omega)
                    refine lv_iinc (v := v1133) (lv' := [(5, .int v1133), (3, .int x1109_3), (6, .int 0), (4, .int x1023_4), (0, .ref h), (1, .int a), (2, .int b)]) hx hb dX12_forceOf_131 hl (k := 2) rfl (by rw [ev1133]; rfl) (by decide) rfl (fun ls hl => ?_)
                    refine lv_goto (tgt := 34) hx hb dX12_forceOf_134 (by decide) ?_
                    exact ih1110 v1133 x1109_3 ⟨by omega, by omega⟩ (show SqI (fa 12 25) n3 (mY (fa 12 26) (fa 12 27) (a).toInt) (vI (fa 12 28)) (aF (a).toInt) (x1023_4 : Int32).toInt (12 * (n3 ((x1023_4 : Int32).toInt).toNat).toInt) (v1133 : Int32).toInt (x1109_3 : Int32).toInt from (by
                          have hv9 := congrArg Int32.toInt (show v1130 = fa 12 26 ((x1109_5 : Int32).toInt).toNat from ev1130)
                          exact SqI_n (j := ((x1109_5 : Int32).toInt).toNat) (c := (x1109_5 : Int32).toInt) (by omega) (by omega) (show ¬ ((a.toInt = 5 ∧ (fa 12 26 ((x1109_5 : Int32).toInt).toNat).toInt = 1) ∨ (a.toInt ≠ 5 ∧ (fa 12 26 ((x1109_5 : Int32).toInt).toNat).toInt = 0 ∧ (fa 12 27 ((x1109_5 : Int32).toInt).toNat).toInt = a.toInt)) from by omega) hq1110_0)) (show 12 * (n3 ((x1023_4 : Int32).toInt).toNat).toInt ≤ (v1133 : Int32).toInt from (by have hq9 := hq1110_1; omega)) (show (v1133 : Int32).toInt ≤ 12 * (n3 ((x1023_4 : Int32).toInt).toNat).toInt + ((fa 12 25) ((n3 ((x1023_4 : Int32).toInt).toNat).toInt).toNat).toInt from (by have hp9 : v1026 = n3 ((x1023_4 : Int32).toInt).toNat := ev1026; have hn9 := congrArg Int32.toInt (show v1114 = fa 12 25 ((v1026 : Int32).toInt).toNat from ev1114); rw [hp9] at hn9; have hp8 := congrArg Int32.toInt hp9; omega)) (by omega) _ _ ls hP hD hS (lv_sub hl [0, 3, 1, 4, 5, 6] rfl)
                  · exact absurd rfl c1132
                · have fc1131 := z_eq (rfl : (v1130).toInt = _) (by decide : (1 : Int32).toInt = 1) c1131
                  refine lv_iconst (v := 1) hx hb dX12_forceOf_78 (by decide) ?_
                  refine lv_goto (tgt := 112) hx hb dX12_forceOf_79 (by decide) ?_
                  refine lv_istore (lv' := [(6, .int 1), (5, .int x1109_5), (4, .int x1023_4), (3, .int x1109_3), (0, .ref h), (1, .int a), (2, .int b)]) hx hb dX12_forceOf_112 hl (by decide) rfl (fun ls hl => ?_)
                  refine lv_iload hx hb dX12_forceOf_114 (lv_at hl 0 rfl) ?_
                  refine lv_if_eq (tgt := 129) hx hb dX12_forceOf_116 (by decide) (fun c1134 => ?_) (fun c1134 => ?_)
                  · exact absurd c1134 (by decide)
                  · skip
                    refine lv_aload_n hx hb dX12_forceOf_119 rfl (lv_at hl 4 rfl) ?_
                    refine gM_12_28 hx hb ht hown hK hP m_1167 dX12_forceOf_120 ?_
                    refine lv_iload hx hb dX12_forceOf_123 (lv_at hl 1 rfl) ?_
                    refine lM_12_28 hx hb hK hP (f := (fa 12 28)) rfl (vp_in_iff.mpr ⟨by omega, by omega⟩) dX12_forceOf_125 ?_
                    refine lv_topi (fun v1135 ev1135 => ?_)
                    refine lv_goto (tgt := 130) hx hb dX12_forceOf_126 (by decide) ?_
                    refine lv_istore_n (lv' := [(3, .int v1135), (6, .int 1), (5, .int x1109_5), (4, .int x1023_4), (0, .ref h), (1, .int a), (2, .int b)]) hx hb dX12_forceOf_130 rfl hl (by decide) rfl (fun ls hl => ?_)
                    obtain ⟨v1136, ev1136⟩ : ∃ y : Int32, y = x1109_5 + 1 := ⟨_, rfl⟩
                    have tv1136 := z_add ev1136 rfl (by decide : (1 : Int32).toInt = 1) (by omega) (by omega)
                    refine lv_iinc (v := v1136) (lv' := [(5, .int v1136), (3, .int v1135), (6, .int 1), (4, .int x1023_4), (0, .ref h), (1, .int a), (2, .int b)]) hx hb dX12_forceOf_131 hl (k := 2) rfl (by rw [ev1136]; rfl) (by decide) rfl (fun ls hl => ?_)
                    refine lv_goto (tgt := 34) hx hb dX12_forceOf_134 (by decide) ?_
                    exact ih1110 v1136 v1135 ⟨by omega, by omega⟩ (show SqI (fa 12 25) n3 (mY (fa 12 26) (fa 12 27) (a).toInt) (vI (fa 12 28)) (aF (a).toInt) (x1023_4 : Int32).toInt (12 * (n3 ((x1023_4 : Int32).toInt).toNat).toInt) (v1136 : Int32).toInt (v1135 : Int32).toInt from (by
                          have hv9 := congrArg Int32.toInt (show v1130 = fa 12 26 ((x1109_5 : Int32).toInt).toNat from ev1130)
                          exact SqI_y (j := ((x1109_5 : Int32).toInt).toNat) (c := (x1109_5 : Int32).toInt) (by omega) (by omega) (by omega) (show ((a.toInt = 5 ∧ (fa 12 26 ((x1109_5 : Int32).toInt).toNat).toInt = 1) ∨ (a.toInt ≠ 5 ∧ (fa 12 26 ((x1109_5 : Int32).toInt).toNat).toInt = 0 ∧ (fa 12 27 ((x1109_5 : Int32).toInt).toNat).toInt = a.toInt)) from by omega) (congrArg Int32.toInt (show v1135 = fa 12 28 ((x1109_5 : Int32).toInt).toNat from ev1135)))) (show 12 * (n3 ((x1023_4 : Int32).toInt).toNat).toInt ≤ (v1136 : Int32).toInt from (by have hq9 := hq1110_1; omega)) (show (v1136 : Int32).toInt ≤ 12 * (n3 ((x1023_4 : Int32).toInt).toNat).toInt + ((fa 12 25) ((n3 ((x1023_4 : Int32).toInt).toNat).toInt).toNat).toInt from (by have hp9 : v1026 = n3 ((x1023_4 : Int32).toInt).toNat := ev1026; have hn9 := congrArg Int32.toInt (show v1114 = fa 12 25 ((v1026 : Int32).toInt).toNat from ev1114); rw [hp9] at hn9; have hp8 := congrArg Int32.toInt hp9; omega)) (by omega) _ _ ls hP hD hS (lv_sub hl [0, 3, 1, 4, 5, 6] rfl)
        exact lp1110 97 v1027 x1023_3 ⟨by omega, by omega⟩ (show SqI (fa 12 25) n3 (mY (fa 12 26) (fa 12 27) (a).toInt) (vI (fa 12 28)) (aF (a).toInt) (x1023_4 : Int32).toInt (12 * (n3 ((x1023_4 : Int32).toInt).toNat).toInt) (v1027 : Int32).toInt (x1023_3 : Int32).toInt from (by have hp9 := congrArg Int32.toInt (show v1026 = n3 ((x1023_4 : Int32).toInt).toNat from ev1026); have he9 : (v1027 : Int32).toInt = 12 * (n3 ((x1023_4 : Int32).toInt).toNat).toInt := (by omega); rw [he9]; exact SqI_0 hq1024_0)) (show 12 * (n3 ((x1023_4 : Int32).toInt).toNat).toInt ≤ (v1027 : Int32).toInt from (by have hp9 := congrArg Int32.toInt (show v1026 = n3 ((x1023_4 : Int32).toInt).toNat from ev1026); omega)) (show (v1027 : Int32).toInt ≤ 12 * (n3 ((x1023_4 : Int32).toInt).toNat).toInt + ((fa 12 25) ((n3 ((x1023_4 : Int32).toInt).toNat).toInt).toNat).toInt from (by have hp9 := congrArg Int32.toInt (show v1026 = n3 ((x1023_4 : Int32).toInt).toNat from ev1026); have hb9 : 0 ≤ (fa 12 25 ((n3 ((x1023_4 : Int32).toInt).toNat).toInt).toNat).toInt ∧ (fa 12 25 ((n3 ((x1023_4 : Int32).toInt).toNat).toInt).toNat).toInt ≤ 12 := hI.2 12 25 _; omega)) (by first | decide | omega) _ _ ls hP hD hS (lv_sub hl [0, 1, 2, 3, 4, 5] rfl)
  have : (0 : Int32).toInt = 0 := (by decide)
  exact lp1024 9 0 r5 ⟨by decide, by decide⟩ (show SqO (fa 12 25) n3 (mY (fa 12 26) (fa 12 27) (a).toInt) (vI (fa 12 28)) (aF (a).toInt) (0 : Int32).toInt (r5 : Int32).toInt from (by have hz : (0 : Int32).toInt = 0 := (by decide); rw [hz, xr5_0]; exact SqO_0)) (show (0 : Int32).toInt ≤ (n4 : Int32).toInt from by omega) (by first | decide | omega) _ _ ls hP hD hS (lv_sub hl [0, 1, 2, 3, 4] rfl)
set_option maxHeartbeats 4000000 in
set_option maxRecDepth 100000 in
/-- X12_force -/
theorem c_X12_force_f (l : Launch) (dC : Nat → ClassId) (dI : Nat → Nat → Nat) (sz : Nat) (h : Nat) (g : Nat → Nat → Nat) (ca : Nat → Nat → ClassId) (iv : Nat → Nat → Int32) (lv : Nat → Nat → Int64) (fa : Nat → Nat → Nat → Int32) (la : Nat → Nat → Nat → Int64) (hI : IX iv fa) (a : Int32) (b : Int32) (hJC : JCf (iv 12 23).toInt (fa 12 25) (fa 12 26) (fa 12 27) (fa 12 28)) (hJK : ∀ k j : Nat, (k : Int) < (iv 12 23).toInt → 12 * k ≤ j → (j : Int) < 12 * (k : Int) + (fa 12 25 k).toInt → (fa 12 26 j).toInt = 3 → 0 ≤ (fa 12 28 j).toInt ∧ (fa 12 28 j).toInt < (k : Int)) : Met l yX12_force (wc yX12_force cX12_force 3 (some .int)) ({ frames := 2, cells := 0, slots := 0, locals := 49 } : Room) (pW (dC, dI) classes (WM h g ca iv lv fa la) (TM ca) sz [.ref h, .int a, .int b]) (va_Qi (fun r (u : SS) => ∃ (na_12_39 : Nat → Int32) (na_12_40 : Nat → Int32) (ni_12_41 : Int32), (∀ j, inb (bA 12 39 j) (na_12_39 j)) ∧ (∀ j, inb (bA 12 40 j) (na_12_40 j)) ∧ inb (bI 12 41) ni_12_41 ∧ (((r.toInt = -100002 ∧ ¬ (0 ≤ a.toInt ∧ a.toInt ≤ 5 ∧ 0 ≤ b.toInt ∧ b.toInt ≤ 3000)) ∨ ((0 ≤ a.toInt ∧ a.toInt ≤ 5 ∧ 0 ≤ b.toInt ∧ b.toInt ≤ 3000) ∧ FoY (iv 12 23).toInt (fa 12 24) (fa 12 25) (fa 12 26) (fa 12 27) (fa 12 28) a.toInt b.toInt r.toInt))) ∧ (True) ∧ u = ((u2 iv 12 41 ni_12_41), lv, (u2 (u2 fa 12 39 na_12_39) 12 40 na_12_40), la)) (bM (dC, dI) h g ca (va_A (WM h g ca iv lv fa la) sz)) (va_A (WM h g ca iv lv fa la) sz)) 0 0 (va_A (WM h g ca iv lv fa la) sz) := by
  refine Met.ofW (cc := cX12_force) (maxL := 3) (ret := (some .int)) (by decide) rfl ?_
  intro p e s m args below meth c s₁ B hml hv
  obtain ⟨rfl, hsz, hP, hK, hD0⟩ := hv
  have hx := B.exec
  have hb := B.bytes
  have hr := B.returns
  have ht := tb_tl (atoms_spec (ws := wc yX12_force cX12_force 3 (some .int)) B.pre)
  have hown : s.vm.findClass RX12 = some m.cls := findClass_of_methodNamed B.named
  have hlocks := B.notSynchronized
  subst hsz
  have hD := hD0.self (sz := s.heap.size)
  generalize hAe : va_A (WM h g ca iv lv fa la) s.heap.size = A at hD ⊢
  have hA : ∀ q : Nat, s.heap.size ≤ q → A q := fun q h => by rw [← hAe]; exact Or.inr h
  have hS : va_S A s.heap s.heap [] := va_S.rf
  have hl := lv_entry [.ref h, .int a, .int b] (n := 3) (Nat.le_of_ble_eq_true rfl)
  rw [lg_entry_eq]
  generalize (lg_sl [.ref h, .int a, .int b] ++ List.replicate (3 - (lg_sl [.ref h, .int a, .int b]).length) Slot.unset).toArray = ls at hl ⊢
  have hl : lv_has ls 3 [(0, .ref h), (1, .int a), (2, .int b)] := hl
  refine lv_iload_n hx hb dX12_force_0 rfl (lv_at hl 1 rfl) ?_
  refine lv_i2l (v := (a.toInt64)) hx hb dX12_force_1 rfl ?_
  refine lv_lconst (v := 0) hx hb dX12_force_2 (by decide) ?_
  refine lv_ldc2 hx hb hown (ht _ m_1508) dX12_force_3 ?_
  refine vp_callSi (W.runS (As := [.long (a.toInt64), .long 0, .long 5]) (rest := []) ⟨hx, hb, hml, hown, ht⟩ (c_X12_in l dC dI (a.toInt64) 0 5 (a.toInt) (0) (5) ((Int32.toInt_toInt64 a).trans rfl) (by decide : (0 : Int64).toInt = 0) (by decide : (5 : Int64).toInt = 5)) (kS 3 ht m_1370 m_1371 m_89 m_1372 rfl rfl hd_X12_in_v ⟨Nat.le_of_ble_eq_true rfl, Nat.le_of_ble_eq_true rfl⟩) (sR noP (hK.sub (tys' := []) [] rfl)) rfl rfl hl.1 rfl (lv_room (Nat.le_of_ble_eq_true rfl)) dX12_force_6 ⟨Nat.le_of_ble_eq_true rfl, Nat.le_of_ble_eq_true rfl⟩) (fun r1 hr1 => ?_)
  rcases hr1 with ⟨rfl, fr1⟩ | ⟨rfl, fr1⟩
  · skip
    refine lv_if_eq (tgt := 28) hx hb dX12_force_9 (by decide) (fun c2 => ?_) (fun c2 => ?_)
    · exact absurd c2 (by decide)
    · skip
      refine lv_iload_n hx hb dX12_force_12 rfl (lv_at hl 2 rfl) ?_
      refine vp_callSi (W.runS (As := [.int b]) (rest := []) ⟨hx, hb, hml, hown, ht⟩ (c_X12_isDay l dC dI b) (kS 1 ht m_1422 m_1423 m_89 m_1424 rfl rfl hd_X12_isDay_v ⟨Nat.le_of_ble_eq_true rfl, Nat.le_of_ble_eq_true rfl⟩) (sR noP (hK.sub (tys' := []) [] rfl)) rfl rfl hl.1 rfl (lv_room (Nat.le_of_ble_eq_true rfl)) dX12_force_13 ⟨Nat.le_of_ble_eq_true rfl, Nat.le_of_ble_eq_true rfl⟩) (fun r3 hr3 => ?_)
      rcases hr3 with ⟨rfl, fr3⟩ | ⟨rfl, fr3⟩
      · skip
        refine lv_if_eq (tgt := 28) hx hb dX12_force_16 (by decide) (fun c4 => ?_) (fun c4 => ?_)
        · exact absurd c4 (by decide)
        · skip
          refine lv_aload_n hx hb dX12_force_19 rfl (lv_at hl 0 rfl) ?_
          refine lv_iload_n hx hb dX12_force_20 rfl (lv_at hl 1 rfl) ?_
          refine lv_iload_n hx hb dX12_force_21 rfl (lv_at hl 2 rfl) ?_
          have hFc := free_all hD hS hA
          refine va_calli (va_runV (As := [.int a, .int b]) (rest := []) ⟨hx, hb, hml, hown, ht⟩ (c_X12_forceOf_f l dC dI s.heap.size h g ca iv lv fa la hI a b ⟨by omega, by omega⟩ hJC hJK) (kV 2 ht m_1509 m_1511 m_55 m_89 m_1512 rfl rfl hd_X12_forceOf_v ⟨Nat.le_of_ble_eq_true rfl, Nat.le_of_ble_eq_true rfl⟩) (vW hP hK hD (rM_12 hK hP)) rfl rfl hl.1 rfl (lv_room (Nat.le_of_ble_eq_true rfl)) dX12_force_22 ⟨Nat.le_of_ble_eq_true rfl, Nat.le_of_ble_eq_true rfl⟩) hS (fun q _ h => hFc q h) hFc (fun r5 u t H1 locs ht9 hvm hr5 hB hz1 hk1 hS => ?_)
          obtain ⟨n6, n7, n8, hn6, hn7, hn8, xr5_0, hr5, rfl⟩ := hr5
          have hn8 : 0 ≤ n8.toInt ∧ n8.toInt ≤ 8 := hn8
          obtain ⟨hP, hD⟩ := hB
          rw [ht9] at hP
          generalize H1 = H at hP hS ⊢
          have hP : va_P (dC, dI) classes (WM h g ca (u2 iv 12 41 n8) lv (u2 (u2 fa 12 39 n6) 12 40 n7) la) H := hP
          have hD : va_D A (WM h g ca (u2 iv 12 41 n8) lv (u2 (u2 fa 12 39 n6) 12 40 n7) la) := (show va_D _ (WM h g ca (u2 iv 12 41 n8) lv (u2 (u2 fa 12 39 n6) 12 40 n7) la) from hD).weaken (fun _ _ _ h => hFc _ h)
          have i_12_23 : 0 ≤ (iv 12 23).toInt ∧ (iv 12 23).toInt ≤ 8 := hI.1 12 23
          have xr5_0 : FoY ((iv 12 23) : Int32).toInt (fa 12 24) (fa 12 25) (fa 12 26) (fa 12 27) (fa 12 28) (a : Int32).toInt (b : Int32).toInt (r5 : Int32).toInt := xr5_0
          refine lv_goto (tgt := 30) hx hb dX12_force_25 (by decide) ?_
          have hP9 : va_P (dC, dI) classes (WM h g ca (u2 iv 12 41 n8) lv (u2 (u2 fa 12 39 n6) 12 40 n7) la) H := hP
          have hD9 : va_D A (WM h g ca (u2 iv 12 41 n8) lv (u2 (u2 fa 12 39 n6) 12 40 n7) la) := hD
          exact W.iret (v := r5) hx hb hr (fun t ht9 hW => ⟨⟨r5, ((u2 iv 12 41 n8), lv, (u2 (u2 fa 12 39 n6) 12 40 n7), la), rfl, ⟨n6, n7, n8, hn6, hn7, (show inb (0, 8) n8 from ⟨by omega, by omega⟩), (show (((r5 : Int32).toInt = -100002 ∧ ¬ (0 ≤ (a).toInt ∧ (a).toInt ≤ 5 ∧ 0 ≤ (b).toInt ∧ (b).toInt ≤ 3000)) ∨ ((0 ≤ (a).toInt ∧ (a).toInt ≤ 5 ∧ 0 ≤ (b).toInt ∧ (b).toInt ≤ 3000) ∧ FoY (iv 12 23).toInt (fa 12 24) (fa 12 25) (fa 12 26) (fa 12 27) (fa 12 28) (a).toInt (b).toInt (r5 : Int32).toInt)) from Or.inr ⟨⟨by omega, by omega, by omega, by omega⟩, xr5_0⟩), trivial, rfl⟩, by rw [ht9]; exact hP9, hD9⟩, hS.F ht9⟩) hS.2.2 dX12_force_30
      · skip
        refine lv_if_eq (tgt := 28) hx hb dX12_force_16 (by decide) (fun c9 => ?_) (fun c9 => ?_)
        · skip
          refine lv_ldc hx hb hown (ht _ m_1373) dX12_force_28 ?_
          have : ((-100002) : Int32).toInt = (-100002) := (by decide)
          have hP9 : va_P (dC, dI) classes (WM h g ca (u2 iv 12 41 (iv 12 41)) lv (u2 (u2 fa 12 39 (fa 12 39)) 12 40 (fa 12 40)) la) s.heap := hP
          have hD9 : va_D A (WM h g ca (u2 iv 12 41 (iv 12 41)) lv (u2 (u2 fa 12 39 (fa 12 39)) 12 40 (fa 12 40)) la) := hD
          exact W.iret (v := (-100002)) hx hb hr (fun t ht9 hW => ⟨⟨(-100002), ((u2 iv 12 41 (iv 12 41)), lv, (u2 (u2 fa 12 39 (fa 12 39)) 12 40 (fa 12 40)), la), rfl, ⟨(fa 12 39), (fa 12 40), (iv 12 41), (hI.2 12 39), (hI.2 12 40), (hI.1 12 41), (show ((((-100002) : Int32).toInt = -100002 ∧ ¬ (0 ≤ (a).toInt ∧ (a).toInt ≤ 5 ∧ 0 ≤ (b).toInt ∧ (b).toInt ≤ 3000)) ∨ ((0 ≤ (a).toInt ∧ (a).toInt ≤ 5 ∧ 0 ≤ (b).toInt ∧ (b).toInt ≤ 3000) ∧ FoY (iv 12 23).toInt (fa 12 24) (fa 12 25) (fa 12 26) (fa 12 27) (fa 12 28) (a).toInt (b).toInt ((-100002) : Int32).toInt)) from Or.inl ⟨by omega, by omega⟩), trivial, rfl⟩, by rw [ht9]; exact hP9, hD9⟩, hS.F ht9⟩) hS.2.2 dX12_force_30
        · exact absurd rfl c9
  · skip
    refine lv_if_eq (tgt := 28) hx hb dX12_force_9 (by decide) (fun c10 => ?_) (fun c10 => ?_)
    · skip
      refine lv_ldc hx hb hown (ht _ m_1373) dX12_force_28 ?_
      have : ((-100002) : Int32).toInt = (-100002) := (by decide)
      have hP9 : va_P (dC, dI) classes (WM h g ca (u2 iv 12 41 (iv 12 41)) lv (u2 (u2 fa 12 39 (fa 12 39)) 12 40 (fa 12 40)) la) s.heap := hP
      have hD9 : va_D A (WM h g ca (u2 iv 12 41 (iv 12 41)) lv (u2 (u2 fa 12 39 (fa 12 39)) 12 40 (fa 12 40)) la) := hD
      exact W.iret (v := (-100002)) hx hb hr (fun t ht9 hW => ⟨⟨(-100002), ((u2 iv 12 41 (iv 12 41)), lv, (u2 (u2 fa 12 39 (fa 12 39)) 12 40 (fa 12 40)), la), rfl, ⟨(fa 12 39), (fa 12 40), (iv 12 41), (hI.2 12 39), (hI.2 12 40), (hI.1 12 41), (show ((((-100002) : Int32).toInt = -100002 ∧ ¬ (0 ≤ (a).toInt ∧ (a).toInt ≤ 5 ∧ 0 ≤ (b).toInt ∧ (b).toInt ≤ 3000)) ∨ ((0 ≤ (a).toInt ∧ (a).toInt ≤ 5 ∧ 0 ≤ (b).toInt ∧ (b).toInt ≤ 3000) ∧ FoY (iv 12 23).toInt (fa 12 24) (fa 12 25) (fa 12 26) (fa 12 27) (fa 12 28) (a).toInt (b).toInt ((-100002) : Int32).toInt)) from Or.inl ⟨by omega, by omega⟩), trivial, rfl⟩, by rw [ht9]; exact hP9, hD9⟩, hS.F ht9⟩) hS.2.2 dX12_force_30
    · exact absurd rfl c10
/-! ===== sm0 ===== -/

/-- sums and numbers of those that count -/
noncomputable def smL (c : Nat → Prop) (w : Nat → Int32) : Nat → Int64
  | 0 => 0
  | n + 1 => @ite Int64 (c n) (Classical.propDecidable _) (smL c w n + (w n).toInt64) (smL c w n)
noncomputable def smC (c : Nat → Prop) : Nat → Int32
  | 0 => 0
  | n + 1 => @ite Int32 (c n) (Classical.propDecidable _) (smC c n + 1) (smC c n)
theorem smL_y {c : Nat → Prop} {w : Nat → Int32} {n n' : Nat} (h : n' = n + 1) (hc : c n) : smL c w n' = smL c w n + (w n).toInt64 := by
  rw [h]; exact if_pos hc
theorem smL_n {c : Nat → Prop} {w : Nat → Int32} {n n' : Nat} (h : n' = n + 1) (hc : ¬ c n) : smL c w n' = smL c w n := by
  rw [h]; exact if_neg hc
theorem smC_y {c : Nat → Prop} {n n' : Nat} (h : n' = n + 1) (hc : c n) : smC c n' = smC c n + 1 := by
  rw [h]; exact if_pos hc
theorem smC_n {c : Nat → Prop} {n n' : Nat} (h : n' = n + 1) (hc : ¬ c n) : smC c n' = smC c n := by
  rw [h]; exact if_neg hc
theorem smL_cg {c c' : Nat → Prop} {w w' : Nat → Int32} : ∀ n : Nat, (∀ j : Nat, j < n → (c j ↔ c' j) ∧ w j = w' j) → smL c w n = smL c' w' n
  | 0, _ => rfl
  | n + 1, h => by
    have q := h n (Nat.lt_succ_self n)
    have r := smL_cg n (fun j hj => h j (Nat.lt_succ_of_lt hj))
    by_cases e : c n
    · rw [smL_y rfl e, smL_y rfl (q.1.mp e), r, q.2]
    · rw [smL_n rfl e, smL_n rfl (fun z => e (q.1.mpr z)), r]
theorem smC_cg {c c' : Nat → Prop} : ∀ n : Nat, (∀ j : Nat, j < n → (c j ↔ c' j)) → smC c n = smC c' n
  | 0, _ => rfl
  | n + 1, h => by
    have q := h n (Nat.lt_succ_self n)
    have r := smC_cg n (fun j hj => h j (Nat.lt_succ_of_lt hj))
    by_cases e : c n
    · rw [smC_y rfl e, smC_y rfl (q.mp e), r]
    · rw [smC_n rfl e, smC_n rfl (fun z => e (q.mpr z)), r]
/-- what the sums may be -/
theorem smL_b {c : Nat → Prop} {w : Nat → Int32} {lo hi : Int} (h0 : 0 ≤ lo) (h1 : lo ≤ hi) (h2 : hi ≤ 9999) : ∀ n : Nat, n ≤ 60 → (∀ j : Nat, j < n → lo ≤ (w j).toInt ∧ (w j).toInt ≤ hi) → lo * (smC c n).toInt ≤ (smL c w n).toInt ∧ (smL c w n).toInt ≤ hi * (smC c n).toInt ∧ 0 ≤ (smC c n).toInt ∧ (smC c n).toInt ≤ (n : Int)
  | 0, _, _ => by
    have e1 : (smL c w 0).toInt = 0 := by show (0 : Int64).toInt = 0; decide
    have e2 : (smC c 0).toInt = 0 := by show (0 : Int32).toInt = 0; decide
    rw [e1, e2]; exact ⟨by omega, by omega, by omega, by omega⟩
  | n + 1, hn, h => by
    obtain ⟨q1, q2, q3, q4⟩ := smL_b (c := c) h0 h1 h2 n (by omega) (fun j hj => h j (by omega))
    have z := h n (by omega)
    by_cases e : c n
    · have a1 : (smC c (n + 1)).toInt = (smC c n).toInt + 1 := by
        rw [smC_y rfl e]; exact z_add rfl rfl (by decide : (1 : Int32).toInt = 1) (by omega) (by omega)
      have m0 : hi * (smC c n).toInt ≤ 9999 * 60 := Int.mul_le_mul h2 (by omega) q3 (by decide)
      have m1 : 0 ≤ lo * (smC c n).toInt := Int.mul_nonneg h0 q3
      have a2 : (smL c w (n + 1)).toInt = (smL c w n).toInt + (w n).toInt := by
        rw [smL_y rfl e]; exact l_add rfl rfl (Int32.toInt_toInt64 _) (by omega) (by omega)
      rw [a1, a2, Int.mul_add, Int.mul_add]
      exact ⟨by omega, by omega, by omega, by omega⟩
    · rw [smL_n rfl e, smC_n rfl e]; exact ⟨q1, q2, q3, by omega⟩
/-! ===== sm1 ===== -/
set_option maxHeartbeats 4000000 in
set_option maxRecDepth 100000 in
/-- X10_get -/
theorem c_X10_get_x3 (l : Launch) (dC : Nat → ClassId) (dI : Nat → Nat → Nat) (h : Nat) (g : Nat → Nat → Nat) (ca : Nat → Nat → ClassId) (iv : Nat → Nat → Int32) (lv : Nat → Nat → Int64) (fa : Nat → Nat → Nat → Int32) (la : Nat → Nat → Nat → Int64) (hI : IX iv fa) (a : Int32) (h_a : 0 ≤ a.toInt ∧ a.toInt ≤ 59) : Met l yX10_get (wc yX10_get cX10_get 3 (some .int)) ({ frames := 0, cells := 0, slots := 0, locals := 0 } : Room) (pR (dC, dI) classes (WX h g ca iv lv fa la) (TX ca) [.ref (g 11 0), .int a, .int 3]) (vp_Si (fun r => (True) ∧ (r.toInt = ((fa 10 0) (9 * (a.toInt).toNat + 3)).toInt))) 0 0 (fun _ => False) := by
  refine Met.ofW (cc := cX10_get) (maxL := 3) (ret := (some .int)) (by decide) rfl ?_
  intro p e s m args below meth c s₁ B hml hv
  obtain ⟨rfl, hP, hK⟩ := hv
  have hx := B.exec
  have hb := B.bytes
  have hr := B.returns
  have ht := tb_tl (atoms_spec (ws := wc yX10_get cX10_get 3 (some .int)) B.pre)
  have hown : s.vm.findClass RX10 = some m.cls := findClass_of_methodNamed B.named
  have hlocks := B.notSynchronized
  have hl := lv_entry [.ref (g 11 0), .int a, .int 3] (n := 3) (Nat.le_of_ble_eq_true rfl)
  rw [lg_entry_eq]
  generalize (lg_sl [.ref (g 11 0), .int a, .int 3] ++ List.replicate (3 - (lg_sl [.ref (g 11 0), .int a, .int 3]).length) Slot.unset).toArray = ls at hl ⊢
  have hl : lv_has ls 3 [(0, .ref (g 11 0)), (1, .int a), (2, .int 3)] := hl
  refine lv_aload_n hx hb dX10_get_0 rfl (lv_at hl 0 rfl) ?_
  refine gX_10_0 hx hb ht hown hK hP m_111 dX10_get_1 ?_
  refine lv_iload_n hx hb dX10_get_4 rfl (lv_at hl 1 rfl) ?_
  refine lv_bipush (v := 9) hx hb dX10_get_5 (by decide) ?_
  refine lv_imul hx hb dX10_get_7 ?_
  refine lv_topi (fun v1 ev1 => ?_)
  have tv1 := z_mul ev1 (rfl : (a).toInt = _) (by decide : (9 : Int32).toInt = 9) (by omega) (by omega)
  refine lv_iload_n hx hb dX10_get_8 rfl (lv_at hl 2 rfl) ?_
  refine lv_iadd hx hb dX10_get_9 ?_
  refine lv_topi (fun v2 ev2 => ?_)
  have tv2 := z_add ev2 (rfl : (v1).toInt = _) (by decide : (3 : Int32).toInt = 3) (by omega) (by omega)
  refine lX_10_0 hx hb hK hP (f := (fa 10 0)) rfl (vp_in_iff.mpr ⟨by omega, by omega⟩) dX10_get_10 ?_
  refine lv_topi (fun v3 ev3 => ?_)
  exact W.iret (v := v3) hx hb hr (fun t ht9 hW => ⟨v3, rfl, ⟨trivial, (show (v3 : Int32).toInt = ((fa 10 0) (9 * ((a).toInt).toNat + 3)).toInt from (by have h1 := congrArg Int32.toInt ev3; have h2 : (v2 : Int32).toNatClampNeg = 9 * (a.toInt).toNat + 3 := (by show (v2 : Int32).toInt.toNat = _; omega); rw [h2] at h1; exact h1))⟩, ht9⟩) (fun q hq => by cases hq) dX10_get_11
set_option maxHeartbeats 4000000 in
set_option maxRecDepth 100000 in
/-- X10_get -/
theorem c_X10_get_x4 (l : Launch) (dC : Nat → ClassId) (dI : Nat → Nat → Nat) (h : Nat) (g : Nat → Nat → Nat) (ca : Nat → Nat → ClassId) (iv : Nat → Nat → Int32) (lv : Nat → Nat → Int64) (fa : Nat → Nat → Nat → Int32) (la : Nat → Nat → Nat → Int64) (hI : IX iv fa) (a : Int32) (h_a : 0 ≤ a.toInt ∧ a.toInt ≤ 59) : Met l yX10_get (wc yX10_get cX10_get 3 (some .int)) ({ frames := 0, cells := 0, slots := 0, locals := 0 } : Room) (pR (dC, dI) classes (WX h g ca iv lv fa la) (TX ca) [.ref (g 11 0), .int a, .int 4]) (vp_Si (fun r => (True) ∧ (r.toInt = ((fa 10 0) (9 * (a.toInt).toNat + 4)).toInt))) 0 0 (fun _ => False) := by
  refine Met.ofW (cc := cX10_get) (maxL := 3) (ret := (some .int)) (by decide) rfl ?_
  intro p e s m args below meth c s₁ B hml hv
  obtain ⟨rfl, hP, hK⟩ := hv
  have hx := B.exec
  have hb := B.bytes
  have hr := B.returns
  have ht := tb_tl (atoms_spec (ws := wc yX10_get cX10_get 3 (some .int)) B.pre)
  have hown : s.vm.findClass RX10 = some m.cls := findClass_of_methodNamed B.named
  have hlocks := B.notSynchronized
  have hl := lv_entry [.ref (g 11 0), .int a, .int 4] (n := 3) (Nat.le_of_ble_eq_true rfl)
  rw [lg_entry_eq]
  generalize (lg_sl [.ref (g 11 0), .int a, .int 4] ++ List.replicate (3 - (lg_sl [.ref (g 11 0), .int a, .int 4]).length) Slot.unset).toArray = ls at hl ⊢
  have hl : lv_has ls 3 [(0, .ref (g 11 0)), (1, .int a), (2, .int 4)] := hl
  refine lv_aload_n hx hb dX10_get_0 rfl (lv_at hl 0 rfl) ?_
  refine gX_10_0 hx hb ht hown hK hP m_111 dX10_get_1 ?_
  refine lv_iload_n hx hb dX10_get_4 rfl (lv_at hl 1 rfl) ?_
  refine lv_bipush (v := 9) hx hb dX10_get_5 (by decide) ?_
  refine lv_imul hx hb dX10_get_7 ?_
  refine lv_topi (fun v1 ev1 => ?_)
  have tv1 := z_mul ev1 (rfl : (a).toInt = _) (by decide : (9 : Int32).toInt = 9) (by omega) (by omega)
  refine lv_iload_n hx hb dX10_get_8 rfl (lv_at hl 2 rfl) ?_
  refine lv_iadd hx hb dX10_get_9 ?_
  refine lv_topi (fun v2 ev2 => ?_)
  have tv2 := z_add ev2 (rfl : (v1).toInt = _) (by decide : (4 : Int32).toInt = 4) (by omega) (by omega)
  refine lX_10_0 hx hb hK hP (f := (fa 10 0)) rfl (vp_in_iff.mpr ⟨by omega, by omega⟩) dX10_get_10 ?_
  refine lv_topi (fun v3 ev3 => ?_)
  exact W.iret (v := v3) hx hb hr (fun t ht9 hW => ⟨v3, rfl, ⟨trivial, (show (v3 : Int32).toInt = ((fa 10 0) (9 * ((a).toInt).toNat + 4)).toInt from (by have h1 := congrArg Int32.toInt ev3; have h2 : (v2 : Int32).toNatClampNeg = 9 * (a.toInt).toNat + 4 := (by show (v2 : Int32).toInt.toNat = _; omega); rw [h2] at h1; exact h1))⟩, ht9⟩) (fun q hq => by cases hq) dX10_get_11
set_option maxHeartbeats 4000000 in
set_option maxRecDepth 100000 in
/-- X10_get -/
theorem c_X10_get_x7 (l : Launch) (dC : Nat → ClassId) (dI : Nat → Nat → Nat) (h : Nat) (g : Nat → Nat → Nat) (ca : Nat → Nat → ClassId) (iv : Nat → Nat → Int32) (lv : Nat → Nat → Int64) (fa : Nat → Nat → Nat → Int32) (la : Nat → Nat → Nat → Int64) (hI : IX iv fa) (a : Int32) (h_a : 0 ≤ a.toInt ∧ a.toInt ≤ 59) : Met l yX10_get (wc yX10_get cX10_get 3 (some .int)) ({ frames := 0, cells := 0, slots := 0, locals := 0 } : Room) (pR (dC, dI) classes (WX h g ca iv lv fa la) (TX ca) [.ref (g 11 0), .int a, .int 7]) (vp_Si (fun r => (True) ∧ (r.toInt = ((fa 10 0) (9 * (a.toInt).toNat + 7)).toInt))) 0 0 (fun _ => False) := by
  refine Met.ofW (cc := cX10_get) (maxL := 3) (ret := (some .int)) (by decide) rfl ?_
  intro p e s m args below meth c s₁ B hml hv
  obtain ⟨rfl, hP, hK⟩ := hv
  have hx := B.exec
  have hb := B.bytes
  have hr := B.returns
  have ht := tb_tl (atoms_spec (ws := wc yX10_get cX10_get 3 (some .int)) B.pre)
  have hown : s.vm.findClass RX10 = some m.cls := findClass_of_methodNamed B.named
  have hlocks := B.notSynchronized
  have hl := lv_entry [.ref (g 11 0), .int a, .int 7] (n := 3) (Nat.le_of_ble_eq_true rfl)
  rw [lg_entry_eq]
  generalize (lg_sl [.ref (g 11 0), .int a, .int 7] ++ List.replicate (3 - (lg_sl [.ref (g 11 0), .int a, .int 7]).length) Slot.unset).toArray = ls at hl ⊢
  have hl : lv_has ls 3 [(0, .ref (g 11 0)), (1, .int a), (2, .int 7)] := hl
  refine lv_aload_n hx hb dX10_get_0 rfl (lv_at hl 0 rfl) ?_
  refine gX_10_0 hx hb ht hown hK hP m_111 dX10_get_1 ?_
  refine lv_iload_n hx hb dX10_get_4 rfl (lv_at hl 1 rfl) ?_
  refine lv_bipush (v := 9) hx hb dX10_get_5 (by decide) ?_
  refine lv_imul hx hb dX10_get_7 ?_
  refine lv_topi (fun v1 ev1 => ?_)
  have tv1 := z_mul ev1 (rfl : (a).toInt = _) (by decide : (9 : Int32).toInt = 9) (by omega) (by omega)
  refine lv_iload_n hx hb dX10_get_8 rfl (lv_at hl 2 rfl) ?_
  refine lv_iadd hx hb dX10_get_9 ?_
  refine lv_topi (fun v2 ev2 => ?_)
  have tv2 := z_add ev2 (rfl : (v1).toInt = _) (by decide : (7 : Int32).toInt = 7) (by omega) (by omega)
  refine lX_10_0 hx hb hK hP (f := (fa 10 0)) rfl (vp_in_iff.mpr ⟨by omega, by omega⟩) dX10_get_10 ?_
  refine lv_topi (fun v3 ev3 => ?_)
  exact W.iret (v := v3) hx hb hr (fun t ht9 hW => ⟨v3, rfl, ⟨trivial, (show (v3 : Int32).toInt = ((fa 10 0) (9 * ((a).toInt).toNat + 7)).toInt from (by have h1 := congrArg Int32.toInt ev3; have h2 : (v2 : Int32).toNatClampNeg = 9 * (a.toInt).toNat + 7 := (by show (v2 : Int32).toInt.toNat = _; omega); rw [h2] at h1; exact h1))⟩, ht9⟩) (fun q hq => by cases hq) dX10_get_11
set_option maxHeartbeats 4000000 in
set_option maxRecDepth 100000 in
/-- X10_counts -/
theorem c_X10_counts_x (l : Launch) (dC : Nat → ClassId) (dI : Nat → Nat → Nat) (h : Nat) (g : Nat → Nat → Nat) (ca : Nat → Nat → ClassId) (iv : Nat → Nat → Int32) (lv : Nat → Nat → Int64) (fa : Nat → Nat → Nat → Int32) (la : Nat → Nat → Nat → Int64) (hI : IX iv fa) (a : Int32) (b : Int32) (h_a : 0 ≤ a.toInt ∧ a.toInt ≤ 59) : Met l yX10_counts (wc yX10_counts cX10_counts 3 (some .boolean)) ({ frames := 1, cells := 0, slots := 0, locals := 22 } : Room) (pR (dC, dI) classes (WX h g ca iv lv fa la) (TX ca) [.ref (g 11 0), .int a, .int b]) (vp_Si (fun r => (0 ≤ r.toInt ∧ r.toInt ≤ 1) ∧ (((r.toInt = 1 ∧ ((fa 10 0) (9 * (a.toInt).toNat + 7)).toInt ≤ b.toInt ∧ (((fa 10 0) (9 * (a.toInt).toNat + 8)).toInt = -1 ∨ b.toInt < ((fa 10 0) (9 * (a.toInt).toNat + 8)).toInt)) ∨ (r.toInt = 0 ∧ ¬ (((fa 10 0) (9 * (a.toInt).toNat + 7)).toInt ≤ b.toInt ∧ (((fa 10 0) (9 * (a.toInt).toNat + 8)).toInt = -1 ∨ b.toInt < ((fa 10 0) (9 * (a.toInt).toNat + 8)).toInt))))))) 0 0 (fun _ => False) := by
  refine Met.ofW (cc := cX10_counts) (maxL := 3) (ret := (some .boolean)) (by decide) rfl ?_
  intro p e s m args below meth c s₁ B hml hv
  obtain ⟨rfl, hP, hK⟩ := hv
  have hx := B.exec
  have hb := B.bytes
  have hr := B.returns
  have ht := tb_tl (atoms_spec (ws := wc yX10_counts cX10_counts 3 (some .boolean)) B.pre)
  have hown : s.vm.findClass RX10 = some m.cls := findClass_of_methodNamed B.named
  have hlocks := B.notSynchronized
  have hl := lv_entry [.ref (g 11 0), .int a, .int b] (n := 3) (Nat.le_of_ble_eq_true rfl)
  rw [lg_entry_eq]
  generalize (lg_sl [.ref (g 11 0), .int a, .int b] ++ List.replicate (3 - (lg_sl [.ref (g 11 0), .int a, .int b]).length) Slot.unset).toArray = ls at hl ⊢
  have hl : lv_has ls 3 [(0, .ref (g 11 0)), (1, .int a), (2, .int b)] := hl
  refine lv_aload_n hx hb dX10_counts_0 rfl (lv_at hl 0 rfl) ?_
  refine lv_iload_n hx hb dX10_counts_1 rfl (lv_at hl 1 rfl) ?_
  refine lv_bipush (v := 7) hx hb dX10_counts_2 (by decide) ?_
  refine vp_callSi (W.runV (As := [.int a, .int 7]) (rest := []) ⟨hx, hb, hml, hown, ht⟩ (c_X10_get_x7 l dC dI h g ca iv lv fa la hI a ⟨by omega, by omega⟩) (kV 2 ht m_485 m_486 m_487 m_78 m_488 rfl rfl hd_X10_get_v ⟨Nat.le_of_ble_eq_true rfl, Nat.le_of_ble_eq_true rfl⟩) (vR hP hK (rX_10 hK hP)) rfl rfl hl.1 rfl (lv_room (Nat.le_of_ble_eq_true rfl)) dX10_counts_4 ⟨Nat.le_of_ble_eq_true rfl, Nat.le_of_ble_eq_true rfl⟩) (fun r1 hr1 => ?_)
  obtain ⟨hr1, xr1_0⟩ := hr1
  have xr1_0 : (r1 : Int32).toInt = ((fa 10 0) (9 * ((a : Int32).toInt).toNat + 7)).toInt := xr1_0
  refine lv_iload_n hx hb dX10_counts_7 rfl (lv_at hl 2 rfl) ?_
  refine lv_icmp_gt (tgt := 37) hx hb dX10_counts_8 (by decide) (fun c2 => ?_) (fun c2 => ?_)
  · have fc2 := z_lt (rfl : (b).toInt = _) (rfl : (r1).toInt = _) c2
    refine lv_iconst (v := 0) hx hb dX10_counts_37 (by decide) ?_
    have : (0 : Int32).toInt = 0 := (by decide)
    exact W.zret (v := 0) hx hb hr rfl (fun t ht9 hW => ⟨0, rfl, ⟨⟨by decide, by decide⟩, (show (((0 : Int32).toInt = 1 ∧ ((fa 10 0) (9 * ((a).toInt).toNat + 7)).toInt ≤ (b).toInt ∧ (((fa 10 0) (9 * ((a).toInt).toNat + 8)).toInt = -1 ∨ (b).toInt < ((fa 10 0) (9 * ((a).toInt).toNat + 8)).toInt)) ∨ ((0 : Int32).toInt = 0 ∧ ¬ (((fa 10 0) (9 * ((a).toInt).toNat + 7)).toInt ≤ (b).toInt ∧ (((fa 10 0) (9 * ((a).toInt).toNat + 8)).toInt = -1 ∨ (b).toInt < ((fa 10 0) (9 * ((a).toInt).toNat + 8)).toInt)))) from by omega)⟩, ht9⟩) (fun q hq => by cases hq) dX10_counts_38
  · have fc2 := z_nlt (rfl : (b).toInt = _) (rfl : (r1).toInt = _) c2
    refine lv_aload_n hx hb dX10_counts_11 rfl (lv_at hl 0 rfl) ?_
    refine lv_iload_n hx hb dX10_counts_12 rfl (lv_at hl 1 rfl) ?_
    refine lv_bipush (v := 8) hx hb dX10_counts_13 (by decide) ?_
    refine vp_callSi (W.runV (As := [.int a, .int 8]) (rest := []) ⟨hx, hb, hml, hown, ht⟩ (c_X10_get_x8 l dC dI h g ca iv lv fa la hI a ⟨by omega, by omega⟩) (kV 2 ht m_485 m_486 m_487 m_78 m_488 rfl rfl hd_X10_get_v ⟨Nat.le_of_ble_eq_true rfl, Nat.le_of_ble_eq_true rfl⟩) (vR hP hK (rX_10 hK hP)) rfl rfl hl.1 rfl (lv_room (Nat.le_of_ble_eq_true rfl)) dX10_counts_15 ⟨Nat.le_of_ble_eq_true rfl, Nat.le_of_ble_eq_true rfl⟩) (fun r3 hr3 => ?_)
    obtain ⟨hr3, xr3_0⟩ := hr3
    have xr3_0 : (r3 : Int32).toInt = ((fa 10 0) (9 * ((a : Int32).toInt).toNat + 8)).toInt := xr3_0
    refine lv_iconst (v := (-1)) hx hb dX10_counts_18 (by decide) ?_
    refine lv_icmp_eq (tgt := 33) hx hb dX10_counts_19 (by decide) (fun c4 => ?_) (fun c4 => ?_)
    · have fc4 := z_eq (rfl : (r3).toInt = _) (by decide : ((-1) : Int32).toInt = (-1)) c4
      refine lv_iconst (v := 1) hx hb dX10_counts_33 (by decide) ?_
      refine lv_goto (tgt := 38) hx hb dX10_counts_34 (by decide) ?_
      have : (1 : Int32).toInt = 1 := (by decide)
      exact W.zret (v := 1) hx hb hr rfl (fun t ht9 hW => ⟨1, rfl, ⟨⟨by decide, by decide⟩, (show (((1 : Int32).toInt = 1 ∧ ((fa 10 0) (9 * ((a).toInt).toNat + 7)).toInt ≤ (b).toInt ∧ (((fa 10 0) (9 * ((a).toInt).toNat + 8)).toInt = -1 ∨ (b).toInt < ((fa 10 0) (9 * ((a).toInt).toNat + 8)).toInt)) ∨ ((1 : Int32).toInt = 0 ∧ ¬ (((fa 10 0) (9 * ((a).toInt).toNat + 7)).toInt ≤ (b).toInt ∧ (((fa 10 0) (9 * ((a).toInt).toNat + 8)).toInt = -1 ∨ (b).toInt < ((fa 10 0) (9 * ((a).toInt).toNat + 8)).toInt)))) from by omega)⟩, ht9⟩) (fun q hq => by cases hq) dX10_counts_38
    · have fc4 := z_ne (rfl : (r3).toInt = _) (by decide : ((-1) : Int32).toInt = (-1)) c4
      refine lv_aload_n hx hb dX10_counts_22 rfl (lv_at hl 0 rfl) ?_
      refine lv_iload_n hx hb dX10_counts_23 rfl (lv_at hl 1 rfl) ?_
      refine lv_bipush (v := 8) hx hb dX10_counts_24 (by decide) ?_
      refine vp_callSi (W.runV (As := [.int a, .int 8]) (rest := []) ⟨hx, hb, hml, hown, ht⟩ (c_X10_get_x8 l dC dI h g ca iv lv fa la hI a ⟨by omega, by omega⟩) (kV 2 ht m_485 m_486 m_487 m_78 m_488 rfl rfl hd_X10_get_v ⟨Nat.le_of_ble_eq_true rfl, Nat.le_of_ble_eq_true rfl⟩) (vR hP hK (rX_10 hK hP)) rfl rfl hl.1 rfl (lv_room (Nat.le_of_ble_eq_true rfl)) dX10_counts_26 ⟨Nat.le_of_ble_eq_true rfl, Nat.le_of_ble_eq_true rfl⟩) (fun r5 hr5 => ?_)
      obtain ⟨hr5, xr5_0⟩ := hr5
      have xr5_0 : (r5 : Int32).toInt = ((fa 10 0) (9 * ((a : Int32).toInt).toNat + 8)).toInt := xr5_0
      refine lv_iload_n hx hb dX10_counts_29 rfl (lv_at hl 2 rfl) ?_
      refine lv_icmp_le (tgt := 37) hx hb dX10_counts_30 (by decide) (fun c6 => ?_) (fun c6 => ?_)
      · have fc6 := z_le (rfl : (r5).toInt = _) (rfl : (b).toInt = _) c6
        refine lv_iconst (v := 0) hx hb dX10_counts_37 (by decide) ?_
        have : (0 : Int32).toInt = 0 := (by decide)
        exact W.zret (v := 0) hx hb hr rfl (fun t ht9 hW => ⟨0, rfl, ⟨⟨by decide, by decide⟩, (show (((0 : Int32).toInt = 1 ∧ ((fa 10 0) (9 * ((a).toInt).toNat + 7)).toInt ≤ (b).toInt ∧ (((fa 10 0) (9 * ((a).toInt).toNat + 8)).toInt = -1 ∨ (b).toInt < ((fa 10 0) (9 * ((a).toInt).toNat + 8)).toInt)) ∨ ((0 : Int32).toInt = 0 ∧ ¬ (((fa 10 0) (9 * ((a).toInt).toNat + 7)).toInt ≤ (b).toInt ∧ (((fa 10 0) (9 * ((a).toInt).toNat + 8)).toInt = -1 ∨ (b).toInt < ((fa 10 0) (9 * ((a).toInt).toNat + 8)).toInt)))) from by omega)⟩, ht9⟩) (fun q hq => by cases hq) dX10_counts_38
      · have fc6 := z_nle (rfl : (r5).toInt = _) (rfl : (b).toInt = _) c6
        refine lv_iconst (v := 1) hx hb dX10_counts_33 (by decide) ?_
        refine lv_goto (tgt := 38) hx hb dX10_counts_34 (by decide) ?_
        have : (1 : Int32).toInt = 1 := (by decide)
        exact W.zret (v := 1) hx hb hr rfl (fun t ht9 hW => ⟨1, rfl, ⟨⟨by decide, by decide⟩, (show (((1 : Int32).toInt = 1 ∧ ((fa 10 0) (9 * ((a).toInt).toNat + 7)).toInt ≤ (b).toInt ∧ (((fa 10 0) (9 * ((a).toInt).toNat + 8)).toInt = -1 ∨ (b).toInt < ((fa 10 0) (9 * ((a).toInt).toNat + 8)).toInt)) ∨ ((1 : Int32).toInt = 0 ∧ ¬ (((fa 10 0) (9 * ((a).toInt).toNat + 7)).toInt ≤ (b).toInt ∧ (((fa 10 0) (9 * ((a).toInt).toNat + 8)).toInt = -1 ∨ (b).toInt < ((fa 10 0) (9 * ((a).toInt).toNat + 8)).toInt)))) from by omega)⟩, ht9⟩) (fun q hq => by cases hq) dX10_counts_38
set_option maxHeartbeats 4000000 in
set_option maxRecDepth 100000 in
/-- X7_put -/
theorem c_X7_put_s30 (l : Launch) (dC : Nat → ClassId) (dI : Nat → Nat → Nat) (sz : Nat) (h : Nat) (g : Nat → Nat → Nat) (ca : Nat → Nat → ClassId) (iv : Nat → Nat → Int32) (lv : Nat → Nat → Int64) (fa : Nat → Nat → Nat → Int32) (la : Nat → Nat → Nat → Int64) (hI : IX iv fa) (a : Int32) (b : Int32) (d : Int32) (h_a : 0 ≤ a.toInt ∧ a.toInt ≤ 2) : Met l yX7_put (wc yX7_put cX7_put 4 none) ({ frames := 0, cells := 0, slots := 0, locals := 0 } : Room) (pW (dC, dI) classes (WX h g ca iv lv fa la) (TX ca) sz [.ref (g 3 2), .int a, .int b, .int d]) (va_Qv (fun (u : SS) => ∃ (na_30_2 : Nat → Int32) (nb_30_0 : Nat → Int64) (nb_30_1 : Nat → Int64), (∀ j : Nat, j ≠ a.toNatClampNeg → nb_30_0 j = (la 30 0) j) ∧ (∀ j : Nat, j ≠ a.toNatClampNeg → nb_30_1 j = (la 30 1) j) ∧ (∀ j : Nat, j ≠ a.toNatClampNeg → na_30_2 j = (fa 30 2) j) ∧ (nb_30_0 a.toNatClampNeg = (la 30 0) a.toNatClampNeg + (b).toInt64) ∧ (nb_30_1 a.toNatClampNeg = (la 30 1) a.toNatClampNeg + (d).toInt64) ∧ (na_30_2 a.toNatClampNeg = (fa 30 2) a.toNatClampNeg + 1) ∧ u = (iv, lv, (u2 fa 30 2 na_30_2), (u2 (u2 la 30 0 nb_30_0) 30 1 nb_30_1))) (bX (dC, dI) h g ca (va_A (WX h g ca iv lv fa la) sz)) (va_A (WX h g ca iv lv fa la) sz)) 0 0 (va_A (WX h g ca iv lv fa la) sz) := by
  refine Met.ofW (cc := cX7_put) (maxL := 4) (ret := none) (by decide) rfl ?_
  intro p e s m args below meth c s₁ B hml hv
  obtain ⟨rfl, hsz, hP, hK, hD0⟩ := hv
  have hx := B.exec
  have hb := B.bytes
  have hr := B.returns
  have ht := tb_tl (atoms_spec (ws := wc yX7_put cX7_put 4 none) B.pre)
  have hown : s.vm.findClass RX7 = some m.cls := findClass_of_methodNamed B.named
  have hlocks := B.notSynchronized
  subst hsz
  have hD := hD0.self (sz := s.heap.size)
  generalize hAe : va_A (WX h g ca iv lv fa la) s.heap.size = A at hD ⊢
  have hA : ∀ q : Nat, s.heap.size ≤ q → A q := fun q h => by rw [← hAe]; exact Or.inr h
  have hS : va_S A s.heap s.heap [] := va_S.rf
  have hl := lv_entry [.ref (g 3 2), .int a, .int b, .int d] (n := 4) (Nat.le_of_ble_eq_true rfl)
  rw [lg_entry_eq]
  generalize (lg_sl [.ref (g 3 2), .int a, .int b, .int d] ++ List.replicate (4 - (lg_sl [.ref (g 3 2), .int a, .int b, .int d]).length) Slot.unset).toArray = ls at hl ⊢
  have hl : lv_has ls 4 [(0, .ref (g 3 2)), (1, .int a), (2, .int b), (3, .int d)] := hl
  refine lv_aload_n hx hb dX7_put_0 rfl (lv_at hl 0 rfl) ?_
  refine gX_30_0 hx hb ht hown hK hP m_261 dX7_put_1 ?_
  refine lv_iload_n hx hb dX7_put_4 rfl (lv_at hl 1 rfl) ?_
  refine lv_dup2_11 hx hb dX7_put_5 rfl rfl ?_
  refine lX_30_0 hx hb hK hP (f := (la 30 0)) rfl (vp_in_iff.mpr ⟨by omega, by omega⟩) dX7_put_6 ?_
  refine lv_topl (fun w1 ew1 => ?_)
  refine lv_iload_n hx hb dX7_put_7 rfl (lv_at hl 2 rfl) ?_
  refine lv_i2l (v := (b.toInt64)) hx hb dX7_put_8 rfl ?_
  refine lv_ladd hx hb dX7_put_9 ?_
  refine lv_topl (fun w2 ew2 => ?_)
  refine tX_30_0 hx hb hK hP hD hS (f0 := (la 30 0)) rfl (i := a) (x := w2) (vp_in_iff.mpr ⟨by omega, by omega⟩) dX7_put_10 (fun f3 ef3 H locs hP hD hS => ?_)
  refine lv_aload_n hx hb dX7_put_11 rfl (lv_at hl 0 rfl) ?_
  refine gX_30_1 hx hb ht hown hK hP m_264 dX7_put_12 ?_
  refine lv_iload_n hx hb dX7_put_15 rfl (lv_at hl 1 rfl) ?_
  refine lv_dup2_11 hx hb dX7_put_16 rfl rfl ?_
  refine lX_30_1 hx hb hK hP (f := (la 30 1)) rfl (vp_in_iff.mpr ⟨by omega, by omega⟩) dX7_put_17 ?_
  refine lv_topl (fun w4 ew4 => ?_)
  refine lv_iload_n hx hb dX7_put_18 rfl (lv_at hl 3 rfl) ?_
  refine lv_i2l (v := (d.toInt64)) hx hb dX7_put_19 rfl ?_
  refine lv_ladd hx hb dX7_put_20 ?_
  refine lv_topl (fun w5 ew5 => ?_)
  refine tX_30_1 hx hb hK hP hD hS (f0 := (la 30 1)) rfl (i := a) (x := w5) (vp_in_iff.mpr ⟨by omega, by omega⟩) dX7_put_21 (fun f6 ef6 H locs hP hD hS => ?_)
  refine lv_aload_n hx hb dX7_put_22 rfl (lv_at hl 0 rfl) ?_
  refine gX_30_2 hx hb ht hown hK hP m_267 dX7_put_23 ?_
  refine lv_iload_n hx hb dX7_put_26 rfl (lv_at hl 1 rfl) ?_
  refine lv_dup2_11 hx hb dX7_put_27 rfl rfl ?_
  refine lX_30_2 hx hb hK hP (f := (fa 30 2)) rfl (vp_in_iff.mpr ⟨by omega, by omega⟩) dX7_put_28 ?_
  refine lv_topi (fun v7 ev7 => ?_)
  refine lv_iconst (v := 1) hx hb dX7_put_29 (by decide) ?_
  refine lv_iadd hx hb dX7_put_30 ?_
  refine lv_topi (fun v8 ev8 => ?_)
  refine tX_30_2 hx hb hK hP hD hS (f0 := (fa 30 2)) rfl (i := a) (x := v8) (vp_in_iff.mpr ⟨by omega, by omega⟩) dX7_put_31 (fun f9 ef9 H locs hP hD hS => ?_)
  have hf9 : ∀ j, inb (bA 30 2 j) (f9 j) := fun j => full_i _
  have hP9 : va_P (dC, dI) classes (WX h g ca iv lv (u2 fa 30 2 f9) (u2 (u2 la 30 0 f3) 30 1 f6)) H := hP
  have hD9 : va_D A (WX h g ca iv lv (u2 fa 30 2 f9) (u2 (u2 la 30 0 f3) 30 1 f6)) := hD
  exact W.vret hx hb hr (fun t ht9 hW => ⟨⟨(iv, lv, (u2 fa 30 2 f9), (u2 (u2 la 30 0 f3) 30 1 f6)), rfl, ⟨f9, f3, f6, (show ∀ j : Nat, j ≠ a.toNatClampNeg → f3 j = (la 30 0) j from fun j hj => by rw [ef3, updL_ne hj]), (show ∀ j : Nat, j ≠ a.toNatClampNeg → f6 j = (la 30 1) j from fun j hj => by rw [ef6, updL_ne hj]), (show ∀ j : Nat, j ≠ a.toNatClampNeg → f9 j = (fa 30 2) j from fun j hj => by rw [ef9, upd_ne hj]), (show f3 a.toNatClampNeg = (la 30 0) a.toNatClampNeg + (b).toInt64 from (by rw [ef3, updL_eq, ew2, ew1])), (show f6 a.toNatClampNeg = (la 30 1) a.toNatClampNeg + (d).toInt64 from (by rw [ef6, updL_eq, ew5, ew4])), (show f9 a.toNatClampNeg = (fa 30 2) a.toNatClampNeg + 1 from (by rw [ef9, upd_eq, ev8, ev7])), rfl⟩, by rw [ht9]; exact hP9, hD9⟩, hS.F ht9⟩) hS.2.2 dX7_put_32
set_option maxHeartbeats 4000000 in
set_option maxRecDepth 100000 in
/-- X7_clear -/
theorem c_X7_clear_s30 (l : Launch) (dC : Nat → ClassId) (dI : Nat → Nat → Nat) (sz : Nat) (h : Nat) (g : Nat → Nat → Nat) (ca : Nat → Nat → ClassId) (iv : Nat → Nat → Int32) (lv : Nat → Nat → Int64) (fa : Nat → Nat → Nat → Int32) (la : Nat → Nat → Nat → Int64) (hI : IX iv fa) : Met l yX7_clear (wc yX7_clear cX7_clear 2 none) ({ frames := 0, cells := 0, slots := 0, locals := 0 } : Room) (pW (dC, dI) classes (WX h g ca iv lv fa la) (TX ca) sz [.ref (g 3 2)]) (va_Qv (fun (u : SS) => ∃ (na_30_2 : Nat → Int32) (nb_30_0 : Nat → Int64) (nb_30_1 : Nat → Int64), (∀ j : Nat, j < 3 → nb_30_0 j = 0 ∧ nb_30_1 j = 0 ∧ na_30_2 j = 0) ∧ u = (iv, lv, (u2 fa 30 2 na_30_2), (u2 (u2 la 30 0 nb_30_0) 30 1 nb_30_1))) (bX (dC, dI) h g ca (va_A (WX h g ca iv lv fa la) sz)) (va_A (WX h g ca iv lv fa la) sz)) 0 0 (va_A (WX h g ca iv lv fa la) sz) := by
  refine Met.ofW (cc := cX7_clear) (maxL := 2) (ret := none) (by decide) rfl ?_
  intro p e s m args below meth c s₁ B hml hv
  obtain ⟨rfl, hsz, hP, hK, hD0⟩ := hv
  have hx := B.exec
  have hb := B.bytes
  have hr := B.returns
  have ht := tb_tl (atoms_spec (ws := wc yX7_clear cX7_clear 2 none) B.pre)
  have hown : s.vm.findClass RX7 = some m.cls := findClass_of_methodNamed B.named
  have hlocks := B.notSynchronized
  subst hsz
  have hD := hD0.self (sz := s.heap.size)
  generalize hAe : va_A (WX h g ca iv lv fa la) s.heap.size = A at hD ⊢
  have hA : ∀ q : Nat, s.heap.size ≤ q → A q := fun q h => by rw [← hAe]; exact Or.inr h
  have hS : va_S A s.heap s.heap [] := va_S.rf
  have hl := lv_entry [.ref (g 3 2)] (n := 2) (Nat.le_of_ble_eq_true rfl)
  rw [lg_entry_eq]
  generalize (lg_sl [.ref (g 3 2)] ++ List.replicate (2 - (lg_sl [.ref (g 3 2)]).length) Slot.unset).toArray = ls at hl ⊢
  have hl : lv_has ls 2 [(0, .ref (g 3 2))] := hl
  refine lv_iconst (v := 0) hx hb dX7_clear_0 (by decide) ?_
  refine lv_istore_n (lv' := [(1, .int 0), (0, .ref (g 3 2))]) hx hb dX7_clear_1 rfl hl (by decide) rfl (fun ls hl => ?_)
  refine lv_iload_n hx hb dX7_clear_2 rfl (lv_at hl 0 rfl) ?_
  refine lv_iconst (v := 3) hx hb dX7_clear_3 (by decide) ?_
  refine lv_icmp_ge (tgt := 34) hx hb dX7_clear_4 (by decide) (fun c1 => ?_) (fun c1 => ?_)
  · exact absurd c1 (by decide)
  · skip
    refine lv_aload_n hx hb dX7_clear_7 rfl (lv_at hl 1 rfl) ?_
    refine gX_30_0 hx hb ht hown hK hP m_261 dX7_clear_8 ?_
    refine lv_iload_n hx hb dX7_clear_11 rfl (lv_at hl 0 rfl) ?_
    refine lv_lconst (v := 0) hx hb dX7_clear_12 (by decide) ?_
    refine tX_30_0 hx hb hK hP hD hS (f0 := (la 30 0)) rfl (i := 0) (x := 0) (vp_in_iff.mpr (by decide)) dX7_clear_13 (fun f2 ef2 H locs hP hD hS => ?_)
    refine lv_aload_n hx hb dX7_clear_14 rfl (lv_at hl 1 rfl) ?_
    refine gX_30_1 hx hb ht hown hK hP m_264 dX7_clear_15 ?_
    refine lv_iload_n hx hb dX7_clear_18 rfl (lv_at hl 0 rfl) ?_
    refine lv_lconst (v := 0) hx hb dX7_clear_19 (by decide) ?_
    refine tX_30_1 hx hb hK hP hD hS (f0 := (la 30 1)) rfl (i := 0) (x := 0) (vp_in_iff.mpr (by decide)) dX7_clear_20 (fun f3 ef3 H locs hP hD hS => ?_)
    refine lv_aload_n hx hb dX7_clear_21 rfl (lv_at hl 1 rfl) ?_
    refine gX_30_2 hx hb ht hown hK hP m_267 dX7_clear_22 ?_
    refine lv_iload_n hx hb dX7_clear_25 rfl (lv_at hl 0 rfl) ?_
    refine lv_iconst (v := 0) hx hb dX7_clear_26 (by decide) ?_
    refine tX_30_2 hx hb hK hP hD hS (f0 := (fa 30 2)) rfl (i := 0) (x := 0) (vp_in_iff.mpr (by decide)) dX7_clear_27 (fun f4 ef4 H locs hP hD hS => ?_)
    have hf4 : ∀ j, inb (bA 30 2 j) (f4 j) := fun j => full_i _
    refine lv_iinc (v := 1) (lv' := [(1, .int 1), (0, .ref (g 3 2))]) hx hb dX7_clear_28 hl (k := 0) rfl (by decide) (by decide) rfl (fun ls hl => ?_)
    refine lv_goto (tgt := 2) hx hb dX7_clear_31 (by decide) ?_
    refine lv_iload_n hx hb dX7_clear_2 rfl (lv_at hl 0 rfl) ?_
    refine lv_iconst (v := 3) hx hb dX7_clear_3 (by decide) ?_
    refine lv_icmp_ge (tgt := 34) hx hb dX7_clear_4 (by decide) (fun c5 => ?_) (fun c5 => ?_)
    · exact absurd c5 (by decide)
    · skip
      refine lv_aload_n hx hb dX7_clear_7 rfl (lv_at hl 1 rfl) ?_
      refine gX_30_0 hx hb ht hown hK hP m_261 dX7_clear_8 ?_
      refine lv_iload_n hx hb dX7_clear_11 rfl (lv_at hl 0 rfl) ?_
      refine lv_lconst (v := 0) hx hb dX7_clear_12 (by decide) ?_
      refine tX_30_0 hx hb hK hP hD hS (f0 := f2) rfl (i := 1) (x := 0) (vp_in_iff.mpr (by decide)) dX7_clear_13 (fun f6 ef6 H locs hP hD hS => ?_)
      have hP : va_P (dC, dI) classes (WX h g ca iv lv (u2 fa 30 2 f4) (u2 (u2 la 30 0 f6) 30 1 f3)) H := hP
      have hD : va_D A (WX h g ca iv lv (u2 fa 30 2 f4) (u2 (u2 la 30 0 f6) 30 1 f3)) := hD
      refine lv_aload_n hx hb dX7_clear_14 rfl (lv_at hl 1 rfl) ?_
      refine gX_30_1 hx hb ht hown hK hP m_264 dX7_clear_15 ?_
      refine lv_iload_n hx hb dX7_clear_18 rfl (lv_at hl 0 rfl) ?_
      refine lv_lconst (v := 0) hx hb dX7_clear_19 (by decide) ?_
      refine tX_30_1 hx hb hK hP hD hS (f0 := f3) rfl (i := 1) (x := 0) (vp_in_iff.mpr (by decide)) dX7_clear_20 (fun f7 ef7 H locs hP hD hS => ?_)
      have hP : va_P (dC, dI) classes (WX h g ca iv lv (u2 fa 30 2 f4) (u2 (u2 la 30 0 f6) 30 1 f7)) H := hP
      have hD : va_D A (WX h g ca iv lv (u2 fa 30 2 f4) (u2 (u2 la 30 0 f6) 30 1 f7)) := hD
      refine lv_aload_n hx hb dX7_clear_21 rfl (lv_at hl 1 rfl) ?_
      refine gX_30_2 hx hb ht hown hK hP m_267 dX7_clear_22 ?_
      refine lv_iload_n hx hb dX7_clear_25 rfl (lv_at hl 0 rfl) ?_
      refine lv_iconst (v := 0) hx hb dX7_clear_26 (by decide) ?_
      refine tX_30_2 hx hb hK hP hD hS (f0 := f4) rfl (i := 1) (x := 0) (vp_in_iff.mpr (by decide)) dX7_clear_27 (fun f8 ef8 H locs hP hD hS => ?_)
      have hf8 : ∀ j, inb (bA 30 2 j) (f8 j) := fun j => full_i _
      have hP : va_P (dC, dI) classes (WX h g ca iv lv (u2 fa 30 2 f8) (u2 (u2 la 30 0 f6) 30 1 f7)) H := hP
      have hD : va_D A (WX h g ca iv lv (u2 fa 30 2 f8) (u2 (u2 la 30 0 f6) 30 1 f7)) := hD
      refine lv_iinc (v := 2) (lv' := [(1, .int 2), (0, .ref (g 3 2))]) hx hb dX7_clear_28 hl (k := 0) rfl (by decide) (by decide) rfl (fun ls hl => ?_)
      refine lv_goto (tgt := 2) hx hb dX7_clear_31 (by decide) ?_
      refine lv_iload_n hx hb dX7_clear_2 rfl (lv_at hl 0 rfl) ?_
      refine lv_iconst (v := 3) hx hb dX7_clear_3 (by decide) ?_
      refine lv_icmp_ge (tgt := 34) hx hb dX7_clear_4 (by decide) (fun c9 => ?_) (fun c9 => ?_)
      · exact absurd c9 (by decide)
      · skip
        refine lv_aload_n hx hb dX7_clear_7 rfl (lv_at hl 1 rfl) ?_
        refine gX_30_0 hx hb ht hown hK hP m_261 dX7_clear_8 ?_
        refine lv_iload_n hx hb dX7_clear_11 rfl (lv_at hl 0 rfl) ?_
        refine lv_lconst (v := 0) hx hb dX7_clear_12 (by decide) ?_
        refine tX_30_0 hx hb hK hP hD hS (f0 := f6) rfl (i := 2) (x := 0) (vp_in_iff.mpr (by decide)) dX7_clear_13 (fun f10 ef10 H locs hP hD hS => ?_)
        have hP : va_P (dC, dI) classes (WX h g ca iv lv (u2 fa 30 2 f8) (u2 (u2 la 30 0 f10) 30 1 f7)) H := hP
        have hD : va_D A (WX h g ca iv lv (u2 fa 30 2 f8) (u2 (u2 la 30 0 f10) 30 1 f7)) := hD
        refine lv_aload_n hx hb dX7_clear_14 rfl (lv_at hl 1 rfl) ?_
        refine gX_30_1 hx hb ht hown hK hP m_264 dX7_clear_15 ?_
        refine lv_iload_n hx hb dX7_clear_18 rfl (lv_at hl 0 rfl) ?_
        refine lv_lconst (v := 0) hx hb dX7_clear_19 (by decide) ?_
        refine tX_30_1 hx hb hK hP hD hS (f0 := f7) rfl (i := 2) (x := 0) (vp_in_iff.mpr (by decide)) dX7_clear_20 (fun f11 ef11 H locs hP hD hS => ?_)
        have hP : va_P (dC, dI) classes (WX h g ca iv lv (u2 fa 30 2 f8) (u2 (u2 la 30 0 f10) 30 1 f11)) H := hP
        have hD : va_D A (WX h g ca iv lv (u2 fa 30 2 f8) (u2 (u2 la 30 0 f10) 30 1 f11)) := hD
        refine lv_aload_n hx hb dX7_clear_21 rfl (lv_at hl 1 rfl) ?_
        refine gX_30_2 hx hb ht hown hK hP m_267 dX7_clear_22 ?_
        refine lv_iload_n hx hb dX7_clear_25 rfl (lv_at hl 0 rfl) ?_
        refine lv_iconst (v := 0) hx hb dX7_clear_26 (by decide) ?_
        refine tX_30_2 hx hb hK hP hD hS (f0 := f8) rfl (i := 2) (x := 0) (vp_in_iff.mpr (by decide)) dX7_clear_27 (fun f12 ef12 H locs hP hD hS => ?_)
        have hf12 : ∀ j, inb (bA 30 2 j) (f12 j) := fun j => full_i _
        have hP : va_P (dC, dI) classes (WX h g ca iv lv (u2 fa 30 2 f12) (u2 (u2 la 30 0 f10) 30 1 f11)) H := hP
        have hD : va_D A (WX h g ca iv lv (u2 fa 30 2 f12) (u2 (u2 la 30 0 f10) 30 1 f11)) := hD
        refine lv_iinc (v := 3) (lv' := [(1, .int 3), (0, .ref (g 3 2))]) hx hb dX7_clear_28 hl (k := 0) rfl (by decide) (by decide) rfl (fun ls hl => ?_)
        refine lv_goto (tgt := 2) hx hb dX7_clear_31 (by decide) ?_
        refine lv_iload_n hx hb dX7_clear_2 rfl (lv_at hl 0 rfl) ?_
        refine lv_iconst (v := 3) hx hb dX7_clear_3 (by decide) ?_
        refine lv_icmp_ge (tgt := 34) hx hb dX7_clear_4 (by decide) (fun c13 => ?_) (fun c13 => ?_)
        · skip
          have hP9 : va_P (dC, dI) classes (WX h g ca iv lv (u2 fa 30 2 f12) (u2 (u2 la 30 0 f10) 30 1 f11)) H := hP
          have hD9 : va_D A (WX h g ca iv lv (u2 fa 30 2 f12) (u2 (u2 la 30 0 f10) 30 1 f11)) := hD
          exact W.vret hx hb hr (fun t ht9 hW => ⟨⟨(iv, lv, (u2 fa 30 2 f12), (u2 (u2 la 30 0 f10) 30 1 f11)), rfl, ⟨f12, f10, f11, (show ∀ j : Nat, j < 3 → f10 j = 0 ∧ f11 j = 0 ∧ f12 j = 0 from (fun j hj => by
                rcases (by omega : j = 0 ∨ j = 1 ∨ j = 2) with rfl | rfl | rfl
                · exact ⟨(by rw [ef10, ef6, ef2]; rfl), (by rw [ef11, ef7, ef3]; rfl), (by rw [ef12, ef8, ef4]; rfl)⟩
                · exact ⟨(by rw [ef10, ef6, ef2]; rfl), (by rw [ef11, ef7, ef3]; rfl), (by rw [ef12, ef8, ef4]; rfl)⟩
                · exact ⟨(by rw [ef10, ef6, ef2]; rfl), (by rw [ef11, ef7, ef3]; rfl), (by rw [ef12, ef8, ef4]; rfl)⟩)), rfl⟩, by rw [ht9]; exact hP9, hD9⟩, hS.F ht9⟩) hS.2.2 dX7_clear_34
        · exact absurd c13 (by decide)
set_option maxHeartbeats 4000000 in
set_option maxRecDepth 100000 in
/-- X3_gather -/
theorem c_X3_gather_s (l : Launch) (dC : Nat → ClassId) (dI : Nat → Nat → Nat) (sz : Nat) (h : Nat) (g : Nat → Nat → Nat) (ca : Nat → Nat → ClassId) (iv : Nat → Nat → Int32) (lv : Nat → Nat → Int64) (fa : Nat → Nat → Nat → Int32) (la : Nat → Nat → Nat → Int64) (hI : IX iv fa) (a : Int32) (b : Int32) : Met l yX3_gather (wc yX3_gather cX3_gather 4 none) ({ frames := 2, cells := 0, slots := 0, locals := 44 } : Room) (pW (dC, dI) classes (WX h g ca iv lv fa la) (TX ca) sz [.ref (g 11 5), .int a, .int b]) (va_Qv (fun (u : SS) => ∃ (na_30_2 : Nat → Int32) (nb_30_0 : Nat → Int64) (nb_30_1 : Nat → Int64), (∀ l : Nat, l < 3 → nb_30_0 l = smL (fun s : Nat => ((fa 10 0) (9 * s + 0)).toInt = a.toInt ∧ ((fa 10 0) (9 * s + 1)).toInt = (l : Int) ∧ ((fa 10 0) (9 * s + 7)).toInt ≤ b.toInt ∧ (((fa 10 0) (9 * s + 8)).toInt = -1 ∨ b.toInt < ((fa 10 0) (9 * s + 8)).toInt)) (fun s : Nat => (fa 10 0) (9 * s + 3)) ((iv 10 1).toInt).toNat ∧ nb_30_1 l = smL (fun s : Nat => ((fa 10 0) (9 * s + 0)).toInt = a.toInt ∧ ((fa 10 0) (9 * s + 1)).toInt = (l : Int) ∧ ((fa 10 0) (9 * s + 7)).toInt ≤ b.toInt ∧ (((fa 10 0) (9 * s + 8)).toInt = -1 ∨ b.toInt < ((fa 10 0) (9 * s + 8)).toInt)) (fun s : Nat => (fa 10 0) (9 * s + 4)) ((iv 10 1).toInt).toNat ∧ na_30_2 l = smC (fun s : Nat => ((fa 10 0) (9 * s + 0)).toInt = a.toInt ∧ ((fa 10 0) (9 * s + 1)).toInt = (l : Int) ∧ ((fa 10 0) (9 * s + 7)).toInt ≤ b.toInt ∧ (((fa 10 0) (9 * s + 8)).toInt = -1 ∨ b.toInt < ((fa 10 0) (9 * s + 8)).toInt)) ((iv 10 1).toInt).toNat) ∧ u = (iv, lv, (u2 fa 30 2 na_30_2), (u2 (u2 la 30 0 nb_30_0) 30 1 nb_30_1))) (bX (dC, dI) h g ca (va_A (WX h g ca iv lv fa la) sz)) (va_A (WX h g ca iv lv fa la) sz)) 0 0 (va_A (WX h g ca iv lv fa la) sz) := by
  refine Met.ofW (cc := cX3_gather) (maxL := 4) (ret := none) (by decide) rfl ?_
  intro p e s m args below meth c s₁ B hml hv
  obtain ⟨rfl, hsz, hP, hK, hD0⟩ := hv
  have hx := B.exec
  have hb := B.bytes
  have hr := B.returns
  have ht := tb_tl (atoms_spec (ws := wc yX3_gather cX3_gather 4 none) B.pre)
  have hown : s.vm.findClass RX3 = some m.cls := findClass_of_methodNamed B.named
  have hlocks := B.notSynchronized
  subst hsz
  have hD := hD0.self (sz := s.heap.size)
  generalize hAe : va_A (WX h g ca iv lv fa la) s.heap.size = A at hD ⊢
  have hA : ∀ q : Nat, s.heap.size ≤ q → A q := fun q h => by rw [← hAe]; exact Or.inr h
  have hS : va_S A s.heap s.heap [] := va_S.rf
  have hl := lv_entry [.ref (g 11 5), .int a, .int b] (n := 4) (Nat.le_of_ble_eq_true rfl)
  rw [lg_entry_eq]
  generalize (lg_sl [.ref (g 11 5), .int a, .int b] ++ List.replicate (4 - (lg_sl [.ref (g 11 5), .int a, .int b]).length) Slot.unset).toArray = ls at hl ⊢
  have hl : lv_has ls 4 [(0, .ref (g 11 5)), (1, .int a), (2, .int b)] := hl
  refine lv_aload_n hx hb dX3_gather_0 rfl (lv_at hl 0 rfl) ?_
  refine gX_3_2 hx hb ht hown hK hP m_281 dX3_gather_1 ?_
  have hFc := free_all hD hS hA
  refine va_callv (va_runV (As := []) (rest := []) ⟨hx, hb, hml, hown, ht⟩ (c_X7_clear_s30 l dC dI s.heap.size h g ca iv lv fa la hI) (kV 0 ht m_568 m_569 m_570 m_84 m_571 rfl rfl hd_X7_clear_v ⟨Nat.le_of_ble_eq_true rfl, Nat.le_of_ble_eq_true rfl⟩) (vW hP hK hD (rX_30 hK hP)) rfl rfl hl.1 rfl (lv_room (Nat.le_of_ble_eq_true rfl)) dX3_gather_4 ⟨Nat.le_of_ble_eq_true rfl, Nat.le_of_ble_eq_true rfl⟩) hS (fun q _ h => hFc q h) hFc (fun u t H1 locs ht9 hvm hr1 hB hz1 hk1 hS => ?_)
  obtain ⟨n2, n3, n4, xr1_0, rfl⟩ := hr1
  have hn2 : ∀ j, inb (bA 30 2 j) (n2 j) := fun j => full_i _
  obtain ⟨hP, hD⟩ := hB
  rw [ht9] at hP
  generalize H1 = H at hP hS ⊢
  have hP : va_P (dC, dI) classes (WX h g ca iv lv (u2 fa 30 2 n2) (u2 (u2 la 30 0 n3) 30 1 n4)) H := hP
  have hD : va_D A (WX h g ca iv lv (u2 fa 30 2 n2) (u2 (u2 la 30 0 n3) 30 1 n4)) := (show va_D _ (WX h g ca iv lv (u2 fa 30 2 n2) (u2 (u2 la 30 0 n3) 30 1 n4)) from hD).weaken (fun _ _ _ h => hFc _ h)
  have xr1_0 : ∀ j : Nat, j < 3 → n3 j = 0 ∧ n4 j = 0 ∧ n2 j = 0 := xr1_0
  refine lv_iconst (v := 0) hx hb dX3_gather_7 (by decide) ?_
  refine lv_istore_n (lv' := [(3, .int 0), (0, .ref (g 11 5)), (1, .int a), (2, .int b)]) hx hb dX3_gather_8 rfl hl (by decide) rfl (fun ls hl => ?_)
  have i_10_1 : 0 ≤ (iv 10 1).toInt ∧ (iv 10 1).toInt ≤ 60 := hI.1 10 1
  have lp358 : ∀ (nn358 : Nat) (x357_3 : Int32) (w357_a_30_2 : Nat → Int32) (w357_b_30_0 : Nat → Int64) (w357_b_30_1 : Nat → Int64), 0 ≤ x357_3.toInt ∧ x357_3.toInt ≤ 60 → (∀ j, inb (bA 30 2 j) (w357_a_30_2 j)) → (∀ l : Nat, l < 3 → w357_b_30_0 l = smL (fun s : Nat => ((fa 10 0) (9 * s + 0)).toInt = (a).toInt ∧ ((fa 10 0) (9 * s + 1)).toInt = (l : Int) ∧ ((fa 10 0) (9 * s + 7)).toInt ≤ (b).toInt ∧ (((fa 10 0) (9 * s + 8)).toInt = -1 ∨ (b).toInt < ((fa 10 0) (9 * s + 8)).toInt)) (fun s : Nat => (fa 10 0) (9 * s + 3)) ((x357_3 : Int32).toInt).toNat ∧ w357_b_30_1 l = smL (fun s : Nat => ((fa 10 0) (9 * s + 0)).toInt = (a).toInt ∧ ((fa 10 0) (9 * s + 1)).toInt = (l : Int) ∧ ((fa 10 0) (9 * s + 7)).toInt ≤ (b).toInt ∧ (((fa 10 0) (9 * s + 8)).toInt = -1 ∨ (b).toInt < ((fa 10 0) (9 * s + 8)).toInt)) (fun s : Nat => (fa 10 0) (9 * s + 4)) ((x357_3 : Int32).toInt).toNat ∧ w357_a_30_2 l = smC (fun s : Nat => ((fa 10 0) (9 * s + 0)).toInt = (a).toInt ∧ ((fa 10 0) (9 * s + 1)).toInt = (l : Int) ∧ ((fa 10 0) (9 * s + 7)).toInt ≤ (b).toInt ∧ (((fa 10 0) (9 * s + 8)).toInt = -1 ∨ (b).toInt < ((fa 10 0) (9 * s + 8)).toInt)) ((x357_3 : Int32).toInt).toNat) → (x357_3 : Int32).toInt ≤ ((iv 10 1) : Int32).toInt → 60 - x357_3.toInt < (nn358 : Int) → ∀ (H : Heap) (locs : List Loc), ∀ (ls : Array Slot), va_P (dC, dI) classes (WX h g ca iv lv (u2 fa 30 2 w357_a_30_2) (u2 (u2 la 30 0 w357_b_30_0) 30 1 w357_b_30_1)) H → va_D A (WX h g ca iv lv (u2 fa 30 2 w357_a_30_2) (u2 (u2 la 30 0 w357_b_30_0) 30 1 w357_b_30_1)) → va_S A s.heap H locs → lv_has ls 4 [(3, .int x357_3), (0, .ref (g 11 5)), (1, .int a), (2, .int b)] → W p l e ({ frames := 2, cells := 0, slots := 0, locals := 44 } : Room) s m ([.ref (g 11 5), .int a, .int b] : List Value).toArray below meth c H locs 0 0 (MQ below (va_Qv (fun (u : SS) => ∃ (na_30_2 : Nat → Int32) (nb_30_0 : Nat → Int64) (nb_30_1 : Nat → Int64), (∀ l : Nat, l < 3 → nb_30_0 l = smL (fun s : Nat => ((fa 10 0) (9 * s + 0)).toInt = a.toInt ∧ ((fa 10 0) (9 * s + 1)).toInt = (l : Int) ∧ ((fa 10 0) (9 * s + 7)).toInt ≤ b.toInt ∧ (((fa 10 0) (9 * s + 8)).toInt = -1 ∨ b.toInt < ((fa 10 0) (9 * s + 8)).toInt)) (fun s : Nat => (fa 10 0) (9 * s + 3)) ((iv 10 1).toInt).toNat ∧ nb_30_1 l = smL (fun s : Nat => ((fa 10 0) (9 * s + 0)).toInt = a.toInt ∧ ((fa 10 0) (9 * s + 1)).toInt = (l : Int) ∧ ((fa 10 0) (9 * s + 7)).toInt ≤ b.toInt ∧ (((fa 10 0) (9 * s + 8)).toInt = -1 ∨ b.toInt < ((fa 10 0) (9 * s + 8)).toInt)) (fun s : Nat => (fa 10 0) (9 * s + 4)) ((iv 10 1).toInt).toNat ∧ na_30_2 l = smC (fun s : Nat => ((fa 10 0) (9 * s + 0)).toInt = a.toInt ∧ ((fa 10 0) (9 * s + 1)).toInt = (l : Int) ∧ ((fa 10 0) (9 * s + 7)).toInt ≤ b.toInt ∧ (((fa 10 0) (9 * s + 8)).toInt = -1 ∨ b.toInt < ((fa 10 0) (9 * s + 8)).toInt)) ((iv 10 1).toInt).toNat) ∧ u = (iv, lv, (u2 fa 30 2 na_30_2), (u2 (u2 la 30 0 nb_30_0) 30 1 nb_30_1))) (bX (dC, dI) h g ca A) A) ([.ref (g 11 5), .int a, .int b] : List Value).toArray s 0 0 A) (F0 m 9 ls []) := by
    intro nn358
    induction nn358 with
    | zero => intro x357_3 w357_a_30_2 w357_b_30_0 w357_b_30_1 hx357_3 hw357_a_30_2 hq358_0 hq358_1 hm358; exfalso; omega
    | succ nn358 ih358 =>
      intro x357_3 w357_a_30_2 w357_b_30_0 w357_b_30_1 hx357_3 hw357_a_30_2 hq358_0 hq358_1 hm358 H locs ls hP hD hS hl
      refine lv_iload_n hx hb dX3_gather_9 rfl (lv_at hl 0 rfl) ?_
      refine lv_aload_n hx hb dX3_gather_10 rfl (lv_at hl 1 rfl) ?_
      refine gX_3_0 hx hb ht hown hK hP m_279 dX3_gather_11 ?_
      refine gX_10_1 hx hb ht hown hK hP m_113 (v := (iv 10 1)) rfl dX3_gather_14 ?_
      refine lv_icmp_ge (tgt := 85) hx hb dX3_gather_17 (by decide) (fun c359 => ?_) (fun c359 => ?_)
      · have fc359 := z_le (rfl : ((iv 10 1)).toInt = _) (rfl : (x357_3).toInt = _) c359
        have hP9 : va_P (dC, dI) classes (WX h g ca iv lv (u2 fa 30 2 w357_a_30_2) (u2 (u2 la 30 0 w357_b_30_0) 30 1 w357_b_30_1)) H := hP
        have hD9 : va_D A (WX h g ca iv lv (u2 fa 30 2 w357_a_30_2) (u2 (u2 la 30 0 w357_b_30_0) 30 1 w357_b_30_1)) := hD
        exact W.vret hx hb hr (fun t ht9 hW => ⟨⟨(iv, lv, (u2 fa 30 2 w357_a_30_2), (u2 (u2 la 30 0 w357_b_30_0) 30 1 w357_b_30_1)), rfl, ⟨w357_a_30_2, w357_b_30_0, w357_b_30_1, (show ∀ l : Nat, l < 3 → w357_b_30_0 l = smL (fun s : Nat => ((fa 10 0) (9 * s + 0)).toInt = (a).toInt ∧ ((fa 10 0) (9 * s + 1)).toInt = (l : Int) ∧ ((fa 10 0) (9 * s + 7)).toInt ≤ (b).toInt ∧ (((fa 10 0) (9 * s + 8)).toInt = -1 ∨ (b).toInt < ((fa 10 0) (9 * s + 8)).toInt)) (fun s : Nat => (fa 10 0) (9 * s + 3)) (((iv 10 1) : Int32).toInt).toNat ∧ w357_b_30_1 l = smL (fun s : Nat => ((fa 10 0) (9 * s + 0)).toInt = (a).toInt ∧ ((fa 10 0) (9 * s + 1)).toInt = (l : Int) ∧ ((fa 10 0) (9 * s + 7)).toInt ≤ (b).toInt ∧ (((fa 10 0) (9 * s + 8)).toInt = -1 ∨ (b).toInt < ((fa 10 0) (9 * s + 8)).toInt)) (fun s : Nat => (fa 10 0) (9 * s + 4)) (((iv 10 1) : Int32).toInt).toNat ∧ w357_a_30_2 l = smC (fun s : Nat => ((fa 10 0) (9 * s + 0)).toInt = (a).toInt ∧ ((fa 10 0) (9 * s + 1)).toInt = (l : Int) ∧ ((fa 10 0) (9 * s + 7)).toInt ≤ (b).toInt ∧ (((fa 10 0) (9 * s + 8)).toInt = -1 ∨ (b).toInt < ((fa 10 0) (9 * s + 8)).toInt)) (((iv 10 1) : Int32).toInt).toNat from (by have hq9 := hq358_0; have he9 : (x357_3 : Int32).toInt = (iv 10 1).toInt := (by omega); rw [he9] at hq9; exact hq9)), rfl⟩, by rw [ht9]; exact hP9, hD9⟩, hS.F ht9⟩) hS.2.2 dX3_gather_85
      · have fc359 := z_nle (rfl : ((iv 10 1)).toInt = _) (rfl : (x357_3).toInt = _) c359
        refine lv_aload_n hx hb dX3_gather_20 rfl (lv_at hl 1 rfl) ?_
        refine gX_3_0 hx hb ht hown hK hP m_279 dX3_gather_21 ?_
        refine lv_iload_n hx hb dX3_gather_24 rfl (lv_at hl 0 rfl) ?_
        refine lv_iconst (v := 0) hx hb dX3_gather_25 (by decide) ?_
        refine vp_callSi (W.runV (As := [.int x357_3, .int 0]) (rest := []) ⟨hx, hb, hml, hown, ht⟩ (c_X10_get_x0 l dC dI h g ca iv lv (u2 fa 30 2 w357_a_30_2) (u2 (u2 la 30 0 w357_b_30_0) 30 1 w357_b_30_1) (IX_a (c := 30) (k := 2) hI hw357_a_30_2) x357_3 ⟨by omega, by omega⟩) (kV 2 ht m_572 m_486 m_487 m_78 m_488 rfl rfl hd_X10_get_v ⟨Nat.le_of_ble_eq_true rfl, Nat.le_of_ble_eq_true rfl⟩) (vR hP hK (rX_10 hK hP)) rfl rfl hl.1 rfl (lv_room (Nat.le_of_ble_eq_true rfl)) dX3_gather_26 ⟨Nat.le_of_ble_eq_true rfl, Nat.le_of_ble_eq_true rfl⟩) (fun r360 hr360 => ?_)
        obtain ⟨hr360, xr360_0⟩ := hr360
        have xr360_0 : (r360 : Int32).toInt = ((fa 10 0) (9 * ((x357_3 : Int32).toInt).toNat + 0)).toInt := xr360_0
        refine lv_iload_n hx hb dX3_gather_29 rfl (lv_at hl 2 rfl) ?_
        refine lv_icmp_ne (tgt := 79) hx hb dX3_gather_30 (by decide) (fun c361 => ?_) (fun c361 => ?_)
        · have fc361 := z_ne (rfl : (r360).toInt = _) (rfl : (a).toInt = _) c361
          obtain ⟨v362, ev362⟩ : ∃ y : Int32, y = x357_3 + 1 := ⟨_, rfl⟩
          have tv362 := z_add ev362 rfl (by decide : (1 : Int32).toInt = 1) (by omega) (by omega)
          refine lv_iinc (v := v362) (lv' := [(3, .int v362), (0, .ref (g 11 5)), (1, .int a), (2, .int b)]) hx hb dX3_gather_79 hl (k := 0) rfl (by rw [ev362]; rfl) (by decide) rfl (fun ls hl => ?_)
          refine lv_goto (tgt := 9) hx hb dX3_gather_82 (by decide) ?_
          exact ih358 v362 w357_a_30_2 w357_b_30_0 w357_b_30_1 ⟨by omega, by omega⟩ hw357_a_30_2 (show ∀ l : Nat, l < 3 → w357_b_30_0 l = smL (fun s : Nat => ((fa 10 0) (9 * s + 0)).toInt = (a).toInt ∧ ((fa 10 0) (9 * s + 1)).toInt = (l : Int) ∧ ((fa 10 0) (9 * s + 7)).toInt ≤ (b).toInt ∧ (((fa 10 0) (9 * s + 8)).toInt = -1 ∨ (b).toInt < ((fa 10 0) (9 * s + 8)).toInt)) (fun s : Nat => (fa 10 0) (9 * s + 3)) ((v362 : Int32).toInt).toNat ∧ w357_b_30_1 l = smL (fun s : Nat => ((fa 10 0) (9 * s + 0)).toInt = (a).toInt ∧ ((fa 10 0) (9 * s + 1)).toInt = (l : Int) ∧ ((fa 10 0) (9 * s + 7)).toInt ≤ (b).toInt ∧ (((fa 10 0) (9 * s + 8)).toInt = -1 ∨ (b).toInt < ((fa 10 0) (9 * s + 8)).toInt)) (fun s : Nat => (fa 10 0) (9 * s + 4)) ((v362 : Int32).toInt).toNat ∧ w357_a_30_2 l = smC (fun s : Nat => ((fa 10 0) (9 * s + 0)).toInt = (a).toInt ∧ ((fa 10 0) (9 * s + 1)).toInt = (l : Int) ∧ ((fa 10 0) (9 * s + 7)).toInt ≤ (b).toInt ∧ (((fa 10 0) (9 * s + 8)).toInt = -1 ∨ (b).toInt < ((fa 10 0) (9 * s + 8)).toInt)) ((v362 : Int32).toInt).toNat from (fun l hl => by
                have hs9 : ((v362 : Int32).toInt).toNat = ((x357_3 : Int32).toInt).toNat + 1 := by omega
                have hq9 := hq358_0 l hl
                have hc : ¬ ((fa 10 0 (9 * ((x357_3 : Int32).toInt).toNat + 0)).toInt = a.toInt ∧ (fa 10 0 (9 * ((x357_3 : Int32).toInt).toNat + 1)).toInt = (l : Int) ∧ (fa 10 0 (9 * ((x357_3 : Int32).toInt).toNat + 7)).toInt ≤ b.toInt ∧ ((fa 10 0 (9 * ((x357_3 : Int32).toInt).toNat + 8)).toInt = -1 ∨ b.toInt < (fa 10 0 (9 * ((x357_3 : Int32).toInt).toNat + 8)).toInt)) := by omega
                rw [smL_n hs9 hc, smL_n hs9 hc, smC_n hs9 hc]
                exact hq9)) (show (v362 : Int32).toInt ≤ ((iv 10 1) : Int32).toInt from by omega) (by omega) _ _ ls hP hD hS (lv_sub hl [0, 1, 2, 3] rfl)
        · have fc361 := z_eq (rfl : (r360).toInt = _) (rfl : (a).toInt = _) c361
          refine lv_aload_n hx hb dX3_gather_33 rfl (lv_at hl 1 rfl) ?_
          refine gX_3_0 hx hb ht hown hK hP m_279 dX3_gather_34 ?_
          refine lv_iload_n hx hb dX3_gather_37 rfl (lv_at hl 0 rfl) ?_
          refine lv_iload_n hx hb dX3_gather_38 rfl (lv_at hl 3 rfl) ?_
          refine vp_callSi (W.runV (As := [.int x357_3, .int b]) (rest := []) ⟨hx, hb, hml, hown, ht⟩ (c_X10_counts_x l dC dI h g ca iv lv (u2 fa 30 2 w357_a_30_2) (u2 (u2 la 30 0 w357_b_30_0) 30 1 w357_b_30_1) (IX_a (c := 30) (k := 2) hI hw357_a_30_2) x357_3 b ⟨by omega, by omega⟩) (kV 2 ht m_573 m_574 m_575 m_78 m_576 rfl rfl hd_X10_counts_v ⟨Nat.le_of_ble_eq_true rfl, Nat.le_of_ble_eq_true rfl⟩) (vR hP hK (rX_10 hK hP)) rfl rfl hl.1 rfl (lv_room (Nat.le_of_ble_eq_true rfl)) dX3_gather_39 ⟨Nat.le_of_ble_eq_true rfl, Nat.le_of_ble_eq_true rfl⟩) (fun r363 hr363 => ?_)
          obtain ⟨hr363, xr363_0⟩ := hr363
          have xr363_0 : (((r363 : Int32).toInt = 1 ∧ ((fa 10 0) (9 * ((x357_3 : Int32).toInt).toNat + 7)).toInt ≤ (b : Int32).toInt ∧ (((fa 10 0) (9 * ((x357_3 : Int32).toInt).toNat + 8)).toInt = -1 ∨ (b : Int32).toInt < ((fa 10 0) (9 * ((x357_3 : Int32).toInt).toNat + 8)).toInt)) ∨ ((r363 : Int32).toInt = 0 ∧ ¬ (((fa 10 0) (9 * ((x357_3 : Int32).toInt).toNat + 7)).toInt ≤ (b : Int32).toInt ∧ (((fa 10 0) (9 * ((x357_3 : Int32).toInt).toNat + 8)).toInt = -1 ∨ (b : Int32).toInt < ((fa 10 0) (9 * ((x357_3 : Int32).toInt).toNat + 8)).toInt)))) := xr363_0
          refine lv_if_eq (tgt := 79) hx hb dX3_gather_42 (by decide) (fun c364 => ?_) (fun c364 => ?_)
          · have fc364 := z_eq (rfl : (r363).toInt = _) (by decide : (0 : Int32).toInt = 0) c364
            obtain ⟨v365, ev365⟩ : ∃ y : Int32, y = x357_3 + 1 := ⟨_, rfl⟩
            have tv365 := z_add ev365 rfl (by decide : (1 : Int32).toInt = 1) (by omega) (by omega)
            refine lv_iinc (v := v365) (lv' := [(3, .int v365), (0, .ref (g 11 5)), (1, .int a), (2, .int b)]) hx hb dX3_gather_79 hl (k := 0) rfl (by rw [ev365]; rfl) (by decide) rfl (fun ls hl => ?_)
            refine lv_goto (tgt := 9) hx hb dX3_gather_82 (by decide) ?_
            exact ih358 v365 w357_a_30_2 w357_b_30_0 w357_b_30_1 ⟨by omega, by omega⟩ hw357_a_30_2 (show ∀ l : Nat, l < 3 → w357_b_30_0 l = smL (fun s : Nat => ((fa 10 0) (9 * s + 0)).toInt = (a).toInt ∧ ((fa 10 0) (9 * s + 1)).toInt = (l : Int) ∧ ((fa 10 0) (9 * s + 7)).toInt ≤ (b).toInt ∧ (((fa 10 0) (9 * s + 8)).toInt = -1 ∨ (b).toInt < ((fa 10 0) (9 * s + 8)).toInt)) (fun s : Nat => (fa 10 0) (9 * s + 3)) ((v365 : Int32).toInt).toNat ∧ w357_b_30_1 l = smL (fun s : Nat => ((fa 10 0) (9 * s + 0)).toInt = (a).toInt ∧ ((fa 10 0) (9 * s + 1)).toInt = (l : Int) ∧ ((fa 10 0) (9 * s + 7)).toInt ≤ (b).toInt ∧ (((fa 10 0) (9 * s + 8)).toInt = -1 ∨ (b).toInt < ((fa 10 0) (9 * s + 8)).toInt)) (fun s : Nat => (fa 10 0) (9 * s + 4)) ((v365 : Int32).toInt).toNat ∧ w357_a_30_2 l = smC (fun s : Nat => ((fa 10 0) (9 * s + 0)).toInt = (a).toInt ∧ ((fa 10 0) (9 * s + 1)).toInt = (l : Int) ∧ ((fa 10 0) (9 * s + 7)).toInt ≤ (b).toInt ∧ (((fa 10 0) (9 * s + 8)).toInt = -1 ∨ (b).toInt < ((fa 10 0) (9 * s + 8)).toInt)) ((v365 : Int32).toInt).toNat from (fun l hl => by
                  have hs9 : ((v365 : Int32).toInt).toNat = ((x357_3 : Int32).toInt).toNat + 1 := by omega
                  have hq9 := hq358_0 l hl
                  have hc : ¬ ((fa 10 0 (9 * ((x357_3 : Int32).toInt).toNat + 0)).toInt = a.toInt ∧ (fa 10 0 (9 * ((x357_3 : Int32).toInt).toNat + 1)).toInt = (l : Int) ∧ (fa 10 0 (9 * ((x357_3 : Int32).toInt).toNat + 7)).toInt ≤ b.toInt ∧ ((fa 10 0 (9 * ((x357_3 : Int32).toInt).toNat + 8)).toInt = -1 ∨ b.toInt < (fa 10 0 (9 * ((x357_3 : Int32).toInt).toNat + 8)).toInt)) := by omega
                  rw [smL_n hs9 hc, smL_n hs9 hc, smC_n hs9 hc]
                  exact hq9)) (show (v365 : Int32).toInt ≤ ((iv 10 1) : Int32).toInt from by omega) (by omega) _ _ ls hP hD hS (lv_sub hl [0, 1, 2, 3] rfl)
          · have fc364 := z_ne (rfl : (r363).toInt = _) (by decide : (0 : Int32).toInt = 0) c364
            refine lv_aload_n hx hb dX3_gather_45 rfl (lv_at hl 1 rfl) ?_
            refine gX_3_2 hx hb ht hown hK hP m_281 dX3_gather_46 ?_
            refine lv_aload_n hx hb dX3_gather_49 rfl (lv_at hl 1 rfl) ?_
            refine gX_3_0 hx hb ht hown hK hP m_279 dX3_gather_50 ?_
            refine lv_iload_n hx hb dX3_gather_53 rfl (lv_at hl 0 rfl) ?_
            refine lv_iconst (v := 1) hx hb dX3_gather_54 (by decide) ?_
            refine vp_callSi (W.runV (As := [.int x357_3, .int 1]) (rest := [.ref (g 3 2)]) ⟨hx, hb, hml, hown, ht⟩ (c_X10_get_x1 l dC dI h g ca iv lv (u2 fa 30 2 w357_a_30_2) (u2 (u2 la 30 0 w357_b_30_0) 30 1 w357_b_30_1) (IX_a (c := 30) (k := 2) hI hw357_a_30_2) x357_3 ⟨by omega, by omega⟩) (kV 2 ht m_572 m_486 m_487 m_78 m_488 rfl rfl hd_X10_get_v ⟨Nat.le_of_ble_eq_true rfl, Nat.le_of_ble_eq_true rfl⟩) (vR hP hK (rX_10 hK hP)) rfl rfl hl.1 rfl (lv_room (Nat.le_of_ble_eq_true rfl)) dX3_gather_55 ⟨Nat.le_of_ble_eq_true rfl, Nat.le_of_ble_eq_true rfl⟩) (fun r366 hr366 => ?_)
            obtain ⟨hr366, xr366_0⟩ := hr366
            have xr366_0 : (r366 : Int32).toInt = ((fa 10 0) (9 * ((x357_3 : Int32).toInt).toNat + 1)).toInt := xr366_0
            refine lv_aload_n hx hb dX3_gather_58 rfl (lv_at hl 1 rfl) ?_
            refine gX_3_0 hx hb ht hown hK hP m_279 dX3_gather_59 ?_
            refine lv_iload_n hx hb dX3_gather_62 rfl (lv_at hl 0 rfl) ?_
            refine lv_iconst (v := 3) hx hb dX3_gather_63 (by decide) ?_
            refine vp_callSi (W.runV (As := [.int x357_3, .int 3]) (rest := [.int r366, .ref (g 3 2)]) ⟨hx, hb, hml, hown, ht⟩ (c_X10_get_x3 l dC dI h g ca iv lv (u2 fa 30 2 w357_a_30_2) (u2 (u2 la 30 0 w357_b_30_0) 30 1 w357_b_30_1) (IX_a (c := 30) (k := 2) hI hw357_a_30_2) x357_3 ⟨by omega, by omega⟩) (kV 2 ht m_572 m_486 m_487 m_78 m_488 rfl rfl hd_X10_get_v ⟨Nat.le_of_ble_eq_true rfl, Nat.le_of_ble_eq_true rfl⟩) (vR hP hK (rX_10 hK hP)) rfl rfl hl.1 rfl (lv_room (Nat.le_of_ble_eq_true rfl)) dX3_gather_64 ⟨Nat.le_of_ble_eq_true rfl, Nat.le_of_ble_eq_true rfl⟩) (fun r367 hr367 => ?_)
            obtain ⟨hr367, xr367_0⟩ := hr367
            have xr367_0 : (r367 : Int32).toInt = ((fa 10 0) (9 * ((x357_3 : Int32).toInt).toNat + 3)).toInt := xr367_0
            refine lv_aload_n hx hb dX3_gather_67 rfl (lv_at hl 1 rfl) ?_
            refine gX_3_0 hx hb ht hown hK hP m_279 dX3_gather_68 ?_
            refine lv_iload_n hx hb dX3_gather_71 rfl (lv_at hl 0 rfl) ?_
            refine lv_iconst (v := 4) hx hb dX3_gather_72 (by decide) ?_
            refine vp_callSi (W.runV (As := [.int x357_3, .int 4]) (rest := [.int r367, .int r366, .ref (g 3 2)]) ⟨hx, hb, hml, hown, ht⟩ (c_X10_get_x4 l dC dI h g ca iv lv (u2 fa 30 2 w357_a_30_2) (u2 (u2 la 30 0 w357_b_30_0) 30 1 w357_b_30_1) (IX_a (c := 30) (k := 2) hI hw357_a_30_2) x357_3 ⟨by omega, by omega⟩) (kV 2 ht m_572 m_486 m_487 m_78 m_488 rfl rfl hd_X10_get_v ⟨Nat.le_of_ble_eq_true rfl, Nat.le_of_ble_eq_true rfl⟩) (vR hP hK (rX_10 hK hP)) rfl rfl hl.1 rfl (lv_room (Nat.le_of_ble_eq_true rfl)) dX3_gather_73 ⟨Nat.le_of_ble_eq_true rfl, Nat.le_of_ble_eq_true rfl⟩) (fun r368 hr368 => ?_)
            obtain ⟨hr368, xr368_0⟩ := hr368
            have xr368_0 : (r368 : Int32).toInt = ((fa 10 0) (9 * ((x357_3 : Int32).toInt).toNat + 4)).toInt := xr368_0
            have hFc := free_all hD hS hA
            refine va_callv (va_runV (As := [.int r366, .int r367, .int r368]) (rest := []) ⟨hx, hb, hml, hown, ht⟩ (c_X7_put_s30 l dC dI H.size h g ca iv lv (u2 fa 30 2 w357_a_30_2) (u2 (u2 la 30 0 w357_b_30_0) 30 1 w357_b_30_1) (IX_a (c := 30) (k := 2) hI hw357_a_30_2) r366 r367 r368 ⟨by omega, by omega⟩) (kV 3 ht m_577 m_578 m_579 m_84 m_580 rfl rfl hd_X7_put_v ⟨Nat.le_of_ble_eq_true rfl, Nat.le_of_ble_eq_true rfl⟩) (vW hP hK hD (rX_30 hK hP)) rfl rfl hl.1 rfl (lv_room (Nat.le_of_ble_eq_true rfl)) dX3_gather_76 ⟨Nat.le_of_ble_eq_true rfl, Nat.le_of_ble_eq_true rfl⟩) hS (fun q _ h => hFc q h) hFc (fun u t H1 locs ht9 hvm hr369 hB hz1 hk1 hS => ?_)
            obtain ⟨n370, n371, n372, xr369_0, xr369_1, xr369_2, xr369_3, xr369_4, xr369_5, rfl⟩ := hr369
            have hn370 : ∀ j, inb (bA 30 2 j) (n370 j) := fun j => full_i _
            obtain ⟨hP, hD⟩ := hB
            rw [ht9] at hP
            generalize H1 = H at hP hS ⊢
            have hP : va_P (dC, dI) classes (WX h g ca iv lv (u2 fa 30 2 n370) (u2 (u2 la 30 0 n371) 30 1 n372)) H := hP
            have hD : va_D A (WX h g ca iv lv (u2 fa 30 2 n370) (u2 (u2 la 30 0 n371) 30 1 n372)) := (show va_D _ (WX h g ca iv lv (u2 fa 30 2 n370) (u2 (u2 la 30 0 n371) 30 1 n372)) from hD).weaken (fun _ _ _ h => hFc _ h)
            have xr369_0 : ∀ j : Nat, j ≠ (r366 : Int32).toNatClampNeg → n371 j = w357_b_30_0 j := xr369_0
            have xr369_1 : ∀ j : Nat, j ≠ (r366 : Int32).toNatClampNeg → n372 j = w357_b_30_1 j := xr369_1
            have xr369_2 : ∀ j : Nat, j ≠ (r366 : Int32).toNatClampNeg → n370 j = w357_a_30_2 j := xr369_2
            have xr369_3 : n371 (r366 : Int32).toNatClampNeg = w357_b_30_0 (r366 : Int32).toNatClampNeg + ((r367 : Int32)).toInt64 := xr369_3
            have xr369_4 : n372 (r366 : Int32).toNatClampNeg = w357_b_30_1 (r366 : Int32).toNatClampNeg + ((r368 : Int32)).toInt64 := xr369_4
            have xr369_5 : n370 (r366 : Int32).toNatClampNeg = w357_a_30_2 (r366 : Int32).toNatClampNeg + 1 := xr369_5
            obtain ⟨v373, ev373⟩ : ∃ y : Int32, y = x357_3 + 1 := ⟨_, rfl⟩
            have tv373 := z_add ev373 rfl (by decide : (1 : Int32).toInt = 1) (by omega) (by omega)
            refine lv_iinc (v := v373) (lv' := [(3, .int v373), (0, .ref (g 11 5)), (1, .int a), (2, .int b)]) hx hb dX3_gather_79 hl (k := 0) rfl (by rw [ev373]; rfl) (by decide) rfl (fun ls hl => ?_)
            refine lv_goto (tgt := 9) hx hb dX3_gather_82 (by decide) ?_
            exact ih358 v373 n370 n371 n372 ⟨by omega, by omega⟩ hn370 (show ∀ l : Nat, l < 3 → n371 l = smL (fun s : Nat => ((fa 10 0) (9 * s + 0)).toInt = (a).toInt ∧ ((fa 10 0) (9 * s + 1)).toInt = (l : Int) ∧ ((fa 10 0) (9 * s + 7)).toInt ≤ (b).toInt ∧ (((fa 10 0) (9 * s + 8)).toInt = -1 ∨ (b).toInt < ((fa 10 0) (9 * s + 8)).toInt)) (fun s : Nat => (fa 10 0) (9 * s + 3)) ((v373 : Int32).toInt).toNat ∧ n372 l = smL (fun s : Nat => ((fa 10 0) (9 * s + 0)).toInt = (a).toInt ∧ ((fa 10 0) (9 * s + 1)).toInt = (l : Int) ∧ ((fa 10 0) (9 * s + 7)).toInt ≤ (b).toInt ∧ (((fa 10 0) (9 * s + 8)).toInt = -1 ∨ (b).toInt < ((fa 10 0) (9 * s + 8)).toInt)) (fun s : Nat => (fa 10 0) (9 * s + 4)) ((v373 : Int32).toInt).toNat ∧ n370 l = smC (fun s : Nat => ((fa 10 0) (9 * s + 0)).toInt = (a).toInt ∧ ((fa 10 0) (9 * s + 1)).toInt = (l : Int) ∧ ((fa 10 0) (9 * s + 7)).toInt ≤ (b).toInt ∧ (((fa 10 0) (9 * s + 8)).toInt = -1 ∨ (b).toInt < ((fa 10 0) (9 * s + 8)).toInt)) ((v373 : Int32).toInt).toNat from (fun l hl => by
                  have hs9 : ((v373 : Int32).toInt).toNat = ((x357_3 : Int32).toInt).toNat + 1 := by omega
                  have hq9 := hq358_0 l hl
                  by_cases hl2 : l = (r366 : Int32).toNatClampNeg
                  · have hl3 : (l : Int) = (r366 : Int32).toInt := by rw [hl2]; show (((r366 : Int32).toInt.toNat : Nat) : Int) = _; omega
                    have hc : (fa 10 0 (9 * ((x357_3 : Int32).toInt).toNat + 0)).toInt = a.toInt ∧ (fa 10 0 (9 * ((x357_3 : Int32).toInt).toNat + 1)).toInt = (l : Int) ∧ (fa 10 0 (9 * ((x357_3 : Int32).toInt).toNat + 7)).toInt ≤ b.toInt ∧ ((fa 10 0 (9 * ((x357_3 : Int32).toInt).toNat + 8)).toInt = -1 ∨ b.toInt < (fa 10 0 (9 * ((x357_3 : Int32).toInt).toNat + 8)).toInt) := ⟨by omega, by omega, by omega, by omega⟩
                    have hr : (r367 : Int32) = fa 10 0 (9 * ((x357_3 : Int32).toInt).toNat + 3) := Int32.toInt_inj.mp (by omega)
                    have hd : (r368 : Int32) = fa 10 0 (9 * ((x357_3 : Int32).toInt).toNat + 4) := Int32.toInt_inj.mp (by omega)
                    rw [smL_y hs9 hc, smL_y hs9 hc, smC_y hs9 hc, ← hq9.1, ← hq9.2.1, ← hq9.2.2, hl2, xr369_3, xr369_4, xr369_5, hr, hd]
                    exact ⟨rfl, rfl, rfl⟩
                  · have hc : ¬ ((fa 10 0 (9 * ((x357_3 : Int32).toInt).toNat + 0)).toInt = a.toInt ∧ (fa 10 0 (9 * ((x357_3 : Int32).toInt).toNat + 1)).toInt = (l : Int) ∧ (fa 10 0 (9 * ((x357_3 : Int32).toInt).toNat + 7)).toInt ≤ b.toInt ∧ ((fa 10 0 (9 * ((x357_3 : Int32).toInt).toNat + 8)).toInt = -1 ∨ b.toInt < (fa 10 0 (9 * ((x357_3 : Int32).toInt).toNat + 8)).toInt)) := fun z => hl2 (by show l = (r366 : Int32).toInt.toNat; omega)
                    rw [smL_n hs9 hc, smL_n hs9 hc, smC_n hs9 hc]
                    rw [xr369_0 l hl2, xr369_1 l hl2, xr369_2 l hl2]
                    exact hq9)) (show (v373 : Int32).toInt ≤ ((iv 10 1) : Int32).toInt from by omega) (by omega) _ _ ls hP hD hS (lv_sub hl [0, 1, 2, 3] rfl)
  have : (0 : Int32).toInt = 0 := (by decide)
  have i_10_1 : 0 ≤ (iv 10 1).toInt ∧ (iv 10 1).toInt ≤ 60 := hI.1 10 1
  exact lp358 61 0 n2 n3 n4 ⟨by decide, by decide⟩ hn2 (show ∀ l : Nat, l < 3 → n3 l = smL (fun s : Nat => ((fa 10 0) (9 * s + 0)).toInt = (a).toInt ∧ ((fa 10 0) (9 * s + 1)).toInt = (l : Int) ∧ ((fa 10 0) (9 * s + 7)).toInt ≤ (b).toInt ∧ (((fa 10 0) (9 * s + 8)).toInt = -1 ∨ (b).toInt < ((fa 10 0) (9 * s + 8)).toInt)) (fun s : Nat => (fa 10 0) (9 * s + 3)) ((0 : Int32).toInt).toNat ∧ n4 l = smL (fun s : Nat => ((fa 10 0) (9 * s + 0)).toInt = (a).toInt ∧ ((fa 10 0) (9 * s + 1)).toInt = (l : Int) ∧ ((fa 10 0) (9 * s + 7)).toInt ≤ (b).toInt ∧ (((fa 10 0) (9 * s + 8)).toInt = -1 ∨ (b).toInt < ((fa 10 0) (9 * s + 8)).toInt)) (fun s : Nat => (fa 10 0) (9 * s + 4)) ((0 : Int32).toInt).toNat ∧ n2 l = smC (fun s : Nat => ((fa 10 0) (9 * s + 0)).toInt = (a).toInt ∧ ((fa 10 0) (9 * s + 1)).toInt = (l : Int) ∧ ((fa 10 0) (9 * s + 7)).toInt ≤ (b).toInt ∧ (((fa 10 0) (9 * s + 8)).toInt = -1 ∨ (b).toInt < ((fa 10 0) (9 * s + 8)).toInt)) ((0 : Int32).toInt).toNat from (fun l hl => by have hz : ((0 : Int32).toInt).toNat = 0 := (by decide); rw [hz]; exact xr1_0 l hl)) (show (0 : Int32).toInt ≤ ((iv 10 1) : Int32).toInt from by omega) (by first | decide | omega) _ _ ls hP hD hS (lv_sub hl [0, 1, 2, 3] rfl)
/-! ===== sm2 ===== -/
set_option maxHeartbeats 4000000 in
set_option maxRecDepth 100000 in
/-- X12_sumUp -/
theorem c_X12_sumUp_s (l : Launch) (dC : Nat → ClassId) (dI : Nat → Nat → Nat) (sz : Nat) (h : Nat) (g : Nat → Nat → Nat) (ca : Nat → Nat → ClassId) (iv : Nat → Nat → Int32) (lv : Nat → Nat → Int64) (fa : Nat → Nat → Nat → Int32) (la : Nat → Nat → Nat → Int64) (hI : IX iv fa) (a : Int32) (b : Int32) (d : Int32) (q_12_20 : (-1) ≤ (iv 12 20).toInt ∧ (iv 12 20).toInt ≤ (-1)) (q_12_21 : (-1) ≤ (iv 12 21).toInt ∧ (iv 12 21).toInt ≤ (-1)) (q_12_22 : (-1) ≤ (iv 12 22).toInt ∧ (iv 12 22).toInt ≤ (-1)) (hJR : JRf (iv 12 3).toInt (fa 12 7)) : Met l yX12_sumUp (wc yX12_sumUp cX12_sumUp 6 (some .int)) ({ frames := 1, cells := 0, slots := 0, locals := 22 } : Room) (pW (dC, dI) classes (WM h g ca iv lv fa la) (TM ca) sz [.ref h, .int a, .int b, .int d]) (va_Qi (fun r (u : SS) => ∃ (ni_12_19 : Int32) (nl_12_17 : Int64) (nl_12_18 : Int64), (0 ≤ r.toInt) ∧ (r.toInt ≤ 60) ∧ (0 ≤ (nl_12_18).toInt) ∧ ((nl_12_18).toInt ≤ 599940) ∧ (100 * r.toInt ≤ (nl_12_18).toInt) ∧ ((nl_12_17).toInt = (smL (fun s : Nat => ((fa 12 4) s).toInt = a.toInt ∧ ((fa 12 5) s).toInt = b.toInt ∧ ((fa 12 11) s).toInt ≤ d.toInt ∧ (((fa 12 12) s).toInt < 0 ∨ d.toInt < ((fa 12 12) s).toInt)) (fa 12 8) ((iv 12 3).toInt).toNat).toInt) ∧ ((nl_12_18).toInt = (smL (fun s : Nat => ((fa 12 4) s).toInt = a.toInt ∧ ((fa 12 5) s).toInt = b.toInt ∧ ((fa 12 11) s).toInt ≤ d.toInt ∧ (((fa 12 12) s).toInt < 0 ∨ d.toInt < ((fa 12 12) s).toInt)) (fa 12 7) ((iv 12 3).toInt).toNat).toInt) ∧ ((ni_12_19).toInt = (smC (fun s : Nat => ((fa 12 4) s).toInt = a.toInt ∧ ((fa 12 5) s).toInt = b.toInt ∧ ((fa 12 11) s).toInt ≤ d.toInt ∧ (((fa 12 12) s).toInt < 0 ∨ d.toInt < ((fa 12 12) s).toInt)) ((iv 12 3).toInt).toNat).toInt) ∧ (r.toInt = (ni_12_19).toInt) ∧ (True) ∧ u = ((u2 iv 12 19 ni_12_19), (u2 (u2 lv 12 17 nl_12_17) 12 18 nl_12_18), fa, la)) (bM (dC, dI) h g ca (va_A (WM h g ca iv lv fa la) sz)) (va_A (WM h g ca iv lv fa la) sz)) 0 0 (va_A (WM h g ca iv lv fa la) sz) := by
  refine Met.ofW (cc := cX12_sumUp) (maxL := 6) (ret := (some .int)) (by decide) rfl ?_
  intro p e s m args below meth c s₁ B hml hv
  obtain ⟨rfl, hsz, hP, hK, hD0⟩ := hv
  have hx := B.exec
  have hb := B.bytes
  have hr := B.returns
  have ht := tb_tl (atoms_spec (ws := wc yX12_sumUp cX12_sumUp 6 (some .int)) B.pre)
  have hown : s.vm.findClass RX12 = some m.cls := findClass_of_methodNamed B.named
  have hlocks := B.notSynchronized
  subst hsz
  have hD := hD0.self (sz := s.heap.size)
  generalize hAe : va_A (WM h g ca iv lv fa la) s.heap.size = A at hD ⊢
  have hA : ∀ q : Nat, s.heap.size ≤ q → A q := fun q h => by rw [← hAe]; exact Or.inr h
  have hS : va_S A s.heap s.heap [] := va_S.rf
  have hl := lv_entry [.ref h, .int a, .int b, .int d] (n := 6) (Nat.le_of_ble_eq_true rfl)
  rw [lg_entry_eq]
  generalize (lg_sl [.ref h, .int a, .int b, .int d] ++ List.replicate (6 - (lg_sl [.ref h, .int a, .int b, .int d]).length) Slot.unset).toArray = ls at hl ⊢
  have hl : lv_has ls 6 [(0, .ref h), (1, .int a), (2, .int b), (3, .int d)] := hl
  refine lv_aload_n hx hb dX12_sumUp_0 rfl (lv_at hl 0 rfl) ?_
  refine lv_lconst (v := 0) hx hb dX12_sumUp_1 (by decide) ?_
  refine pM_12_17 (v := 0) hx hb ht hown hK hP hD hS m_1156 dX12_sumUp_2 (fun H locs hP hD hS => ?_)
  refine lv_aload_n hx hb dX12_sumUp_5 rfl (lv_at hl 0 rfl) ?_
  refine lv_lconst (v := 0) hx hb dX12_sumUp_6 (by decide) ?_
  refine pM_12_18 (v := 0) hx hb ht hown hK hP hD hS m_1157 dX12_sumUp_7 (fun H locs hP hD hS => ?_)
  refine lv_aload_n hx hb dX12_sumUp_10 rfl (lv_at hl 0 rfl) ?_
  refine lv_iconst (v := 0) hx hb dX12_sumUp_11 (by decide) ?_
  refine pM_12_19 (v := 0) hx hb ht hown hK hP hD hS m_1158 dX12_sumUp_12 (fun H locs hP hD hS => ?_)
  refine lv_iconst (v := 0) hx hb dX12_sumUp_15 (by decide) ?_
  refine lv_istore (lv' := [(4, .int 0), (0, .ref h), (1, .int a), (2, .int b), (3, .int d)]) hx hb dX12_sumUp_16 hl (by decide) rfl (fun ls hl => ?_)
  have i_12_3 : 0 ≤ (iv 12 3).toInt ∧ (iv 12 3).toInt ≤ 60 := hI.1 12 3
  have lp508 : ∀ (nn508 : Nat) (x507_4 : Int32) (w507_i_12_19 : Int32) (w507_l_12_17 : Int64) (w507_l_12_18 : Int64), 0 ≤ x507_4.toInt ∧ x507_4.toInt ≤ 60 → 0 ≤ (w507_l_12_18 : Int64).toInt → (w507_l_12_18 : Int64).toInt ≤ 9999 * (x507_4 : Int32).toInt → 100 * (w507_i_12_19 : Int32).toInt ≤ (w507_l_12_18 : Int64).toInt → 0 ≤ (w507_i_12_19 : Int32).toInt → (w507_i_12_19 : Int32).toInt ≤ (x507_4 : Int32).toInt → ((w507_l_12_17 : Int64).toInt = (smL (fun s : Nat => ((fa 12 4) s).toInt = (a).toInt ∧ ((fa 12 5) s).toInt = (b).toInt ∧ ((fa 12 11) s).toInt ≤ (d).toInt ∧ (((fa 12 12) s).toInt < 0 ∨ (d).toInt < ((fa 12 12) s).toInt)) (fa 12 8) ((x507_4 : Int32).toInt).toNat).toInt) → ((w507_l_12_18 : Int64).toInt = (smL (fun s : Nat => ((fa 12 4) s).toInt = (a).toInt ∧ ((fa 12 5) s).toInt = (b).toInt ∧ ((fa 12 11) s).toInt ≤ (d).toInt ∧ (((fa 12 12) s).toInt < 0 ∨ (d).toInt < ((fa 12 12) s).toInt)) (fa 12 7) ((x507_4 : Int32).toInt).toNat).toInt) → ((w507_i_12_19 : Int32).toInt = (smC (fun s : Nat => ((fa 12 4) s).toInt = (a).toInt ∧ ((fa 12 5) s).toInt = (b).toInt ∧ ((fa 12 11) s).toInt ≤ (d).toInt ∧ (((fa 12 12) s).toInt < 0 ∨ (d).toInt < ((fa 12 12) s).toInt)) ((x507_4 : Int32).toInt).toNat).toInt) → (x507_4 : Int32).toInt ≤ ((iv 12 3) : Int32).toInt → 60 - x507_4.toInt < (nn508 : Int) → ∀ (H : Heap) (locs : List Loc), ∀ (ls : Array Slot), va_P (dC, dI) classes (WM h g ca (u2 iv 12 19 w507_i_12_19) (u2 (u2 lv 12 17 w507_l_12_17) 12 18 w507_l_12_18) fa la) H → va_D A (WM h g ca (u2 iv 12 19 w507_i_12_19) (u2 (u2 lv 12 17 w507_l_12_17) 12 18 w507_l_12_18) fa la) → va_S A s.heap H locs → lv_has ls 6 [(4, .int x507_4), (0, .ref h), (1, .int a), (2, .int b), (3, .int d)] → W p l e ({ frames := 1, cells := 0, slots := 0, locals := 22 } : Room) s m ([.ref h, .int a, .int b, .int d] : List Value).toArray below meth c H locs 0 0 (MQ below (va_Qi (fun r (u : SS) => ∃ (ni_12_19 : Int32) (nl_12_17 : Int64) (nl_12_18 : Int64), (0 ≤ r.toInt) ∧ (r.toInt ≤ 60) ∧ (0 ≤ (nl_12_18).toInt) ∧ ((nl_12_18).toInt ≤ 599940) ∧ (100 * r.toInt ≤ (nl_12_18).toInt) ∧ ((nl_12_17).toInt = (smL (fun s : Nat => ((fa 12 4) s).toInt = a.toInt ∧ ((fa 12 5) s).toInt = b.toInt ∧ ((fa 12 11) s).toInt ≤ d.toInt ∧ (((fa 12 12) s).toInt < 0 ∨ d.toInt < ((fa 12 12) s).toInt)) (fa 12 8) ((iv 12 3).toInt).toNat).toInt) ∧ ((nl_12_18).toInt = (smL (fun s : Nat => ((fa 12 4) s).toInt = a.toInt ∧ ((fa 12 5) s).toInt = b.toInt ∧ ((fa 12 11) s).toInt ≤ d.toInt ∧ (((fa 12 12) s).toInt < 0 ∨ d.toInt < ((fa 12 12) s).toInt)) (fa 12 7) ((iv 12 3).toInt).toNat).toInt) ∧ ((ni_12_19).toInt = (smC (fun s : Nat => ((fa 12 4) s).toInt = a.toInt ∧ ((fa 12 5) s).toInt = b.toInt ∧ ((fa 12 11) s).toInt ≤ d.toInt ∧ (((fa 12 12) s).toInt < 0 ∨ d.toInt < ((fa 12 12) s).toInt)) ((iv 12 3).toInt).toNat).toInt) ∧ (r.toInt = (ni_12_19).toInt) ∧ (True) ∧ u = ((u2 iv 12 19 ni_12_19), (u2 (u2 lv 12 17 nl_12_17) 12 18 nl_12_18), fa, la)) (bM (dC, dI) h g ca A) A) ([.ref h, .int a, .int b, .int d] : List Value).toArray s 0 0 A) (F0 m 18 ls []) := by
    intro nn508
    induction nn508 with
    | zero => intro x507_4 w507_i_12_19 w507_l_12_17 w507_l_12_18 hx507_4 hq508_0 hq508_1 hq508_2 hq508_3 hq508_4 hq508_5 hq508_6 hq508_7 hq508_8 hm508; exfalso; omega
    | succ nn508 ih508 =>
      intro x507_4 w507_i_12_19 w507_l_12_17 w507_l_12_18 hx507_4 hq508_0 hq508_1 hq508_2 hq508_3 hq508_4 hq508_5 hq508_6 hq508_7 hq508_8 hm508 H locs ls hP hD hS hl
      refine lv_iload hx hb dX12_sumUp_18 (lv_at hl 0 rfl) ?_
      refine lv_aload_n hx hb dX12_sumUp_20 rfl (lv_at hl 1 rfl) ?_
      refine gM_12_3 hx hb ht hown hK hP m_1142 (v := (iv 12 3)) rfl dX12_sumUp_21 ?_
      refine lv_icmp_ge (tgt := 158) hx hb dX12_sumUp_24 (by decide) (fun c509 => ?_) (fun c509 => ?_)
      · have fc509 := z_le (rfl : ((iv 12 3)).toInt = _) (rfl : (x507_4).toInt = _) c509
        refine lv_aload_n hx hb dX12_sumUp_158 rfl (lv_at hl 1 rfl) ?_
        refine gM_12_19 hx hb ht hown hK hP m_1158 (v := w507_i_12_19) rfl dX12_sumUp_159 ?_
        have hP9 : va_P (dC, dI) classes (WM h g ca (u2 iv 12 19 w507_i_12_19) (u2 (u2 lv 12 17 w507_l_12_17) 12 18 w507_l_12_18) fa la) H := hP
        have hD9 : va_D A (WM h g ca (u2 iv 12 19 w507_i_12_19) (u2 (u2 lv 12 17 w507_l_12_17) 12 18 w507_l_12_18) fa la) := hD
        exact W.iret (v := w507_i_12_19) hx hb hr (fun t ht9 hW => ⟨⟨w507_i_12_19, ((u2 iv 12 19 w507_i_12_19), (u2 (u2 lv 12 17 w507_l_12_17) 12 18 w507_l_12_18), fa, la), rfl, ⟨w507_i_12_19, w507_l_12_17, w507_l_12_18, (show 0 ≤ (w507_i_12_19 : Int32).toInt from by omega), (show (w507_i_12_19 : Int32).toInt ≤ 60 from by omega), (show 0 ≤ (w507_l_12_18 : Int64).toInt from by omega), (show (w507_l_12_18 : Int64).toInt ≤ 599940 from by omega), (show 100 * (w507_i_12_19 : Int32).toInt ≤ (w507_l_12_18 : Int64).toInt from by omega), (show (w507_l_12_17 : Int64).toInt = (smL (fun s : Nat => ((fa 12 4) s).toInt = (a).toInt ∧ ((fa 12 5) s).toInt = (b).toInt ∧ ((fa 12 11) s).toInt ≤ (d).toInt ∧ (((fa 12 12) s).toInt < 0 ∨ (d).toInt < ((fa 12 12) s).toInt)) (fa 12 8) (((iv 12 3) : Int32).toInt).toNat).toInt from (by have hq9 := hq508_5; have he9 : (x507_4 : Int32).toInt = (iv 12 3).toInt := (by omega); rw [he9] at hq9; exact hq9)), (show (w507_l_12_18 : Int64).toInt = (smL (fun s : Nat => ((fa 12 4) s).toInt = (a).toInt ∧ ((fa 12 5) s).toInt = (b).toInt ∧ ((fa 12 11) s).toInt ≤ (d).toInt ∧ (((fa 12 12) s).toInt < 0 ∨ (d).toInt < ((fa 12 12) s).toInt)) (fa 12 7) (((iv 12 3) : Int32).toInt).toNat).toInt from (by have hq9 := hq508_6; have he9 : (x507_4 : Int32).toInt = (iv 12 3).toInt := (by omega); rw [he9] at hq9; exact hq9)), (show (w507_i_12_19 : Int32).toInt = (smC (fun s : Nat => ((fa 12 4) s).toInt = (a).toInt ∧ ((fa 12 5) s).toInt = (b).toInt ∧ ((fa 12 11) s).toInt ≤ (d).toInt ∧ (((fa 12 12) s).toInt < 0 ∨ (d).toInt < ((fa 12 12) s).toInt)) (((iv 12 3) : Int32).toInt).toNat).toInt from (by have hq9 := hq508_7; have he9 : (x507_4 : Int32).toInt = (iv 12 3).toInt := (by omega); rw [he9] at hq9; exact hq9)), (show (w507_i_12_19 : Int32).toInt = (w507_i_12_19 : Int32).toInt from by omega), trivial, rfl⟩, by rw [ht9]; exact hP9, hD9⟩, hS.F ht9⟩) hS.2.2 dX12_sumUp_162
      · have fc509 := z_nle (rfl : ((iv 12 3)).toInt = _) (rfl : (x507_4).toInt = _) c509
        refine lv_aload_n hx hb dX12_sumUp_27 rfl (lv_at hl 1 rfl) ?_
        refine gM_12_9 hx hb ht hown hK hP m_1148 dX12_sumUp_28 ?_
        refine lv_iload hx hb dX12_sumUp_31 (lv_at hl 0 rfl) ?_
        refine lM_12_9 hx hb hK hP (f := (fa 12 9)) rfl (vp_in_iff.mpr ⟨by omega, by omega⟩) dX12_sumUp_33 ?_
        refine lv_topi (fun v510 ev510 => ?_)
        have tv510 : 0 ≤ v510.toInt ∧ v510.toInt ≤ 3 := by rw [ev510]; exact hI.2 12 9 _
        refine lv_aload_n hx hb dX12_sumUp_34 rfl (lv_at hl 1 rfl) ?_
        refine gM_12_20 hx hb ht hown hK hP m_1159 (v := (iv 12 20)) rfl dX12_sumUp_35 ?_
        refine lv_icmp_eq (tgt := 64) hx hb dX12_sumUp_38 (by decide) (fun c511 => ?_) (fun c511 => ?_)
        · have fc511 := z_eq (rfl : (v510).toInt = _) (rfl : ((iv 12 20)).toInt = _) c511; exfalso; omega
        · skip
          refine lv_aload_n hx hb dX12_sumUp_41 rfl (lv_at hl 1 rfl) ?_
          refine gM_12_10 hx hb ht hown hK hP m_1149 dX12_sumUp_42 ?_
          refine lv_iload hx hb dX12_sumUp_45 (lv_at hl 0 rfl) ?_
          refine lM_12_10 hx hb hK hP (f := (fa 12 10)) rfl (vp_in_iff.mpr ⟨by omega, by omega⟩) dX12_sumUp_47 ?_
          refine lv_topi (fun v512 ev512 => ?_)
          have tv512 : 0 ≤ v512.toInt ∧ v512.toInt ≤ 7 := by rw [ev512]; exact hI.2 12 10 _
          refine lv_aload_n hx hb dX12_sumUp_48 rfl (lv_at hl 1 rfl) ?_
          refine gM_12_21 hx hb ht hown hK hP m_1160 (v := (iv 12 21)) rfl dX12_sumUp_49 ?_
          refine lv_icmp_eq (tgt := 64) hx hb dX12_sumUp_52 (by decide) (fun c513 => ?_) (fun c513 => ?_)
          · have fc513 := z_eq (rfl : (v512).toInt = _) (rfl : ((iv 12 21)).toInt = _) c513; exfalso; omega
          · skip
            refine lv_iload hx hb dX12_sumUp_55 (lv_at hl 0 rfl) ?_
            refine lv_aload_n hx hb dX12_sumUp_57 rfl (lv_at hl 1 rfl) ?_
            refine gM_12_22 hx hb ht hown hK hP m_1161 (v := (iv 12 22)) rfl dX12_sumUp_58 ?_
            refine lv_icmp_ne (tgt := 68) hx hb dX12_sumUp_61 (by decide) (fun c514 => ?_) (fun c514 => ?_)
            · skip
              refine lv_iconst (v := 0) hx hb dX12_sumUp_68 (by decide) ?_
              refine lv_istore (lv' := [(5, .int 0), (4, .int x507_4), (0, .ref h), (1, .int a), (2, .int b), (3, .int d)]) hx hb dX12_sumUp_69 hl (by decide) rfl (fun ls hl => ?_)
              refine lv_aload_n hx hb dX12_sumUp_71 rfl (lv_at hl 2 rfl) ?_
              refine gM_12_4 hx hb ht hown hK hP m_1143 dX12_sumUp_72 ?_
              refine lv_iload hx hb dX12_sumUp_75 (lv_at hl 1 rfl) ?_
              refine lM_12_4 hx hb hK hP (f := (fa 12 4)) rfl (vp_in_iff.mpr ⟨by omega, by omega⟩) dX12_sumUp_77 ?_
              refine lv_topi (fun v515 ev515 => ?_)
              refine lv_iload_n hx hb dX12_sumUp_78 rfl (lv_at hl 3 rfl) ?_
              refine lv_icmp_ne (tgt := 152) hx hb dX12_sumUp_79 (by decide) (fun c516 => ?_) (fun c516 => ?_)
              · have fc516 := z_ne (rfl : (v515).toInt = _) (rfl : (a).toInt = _) c516
                obtain ⟨v517, ev517⟩ : ∃ y : Int32, y = x507_4 + 1 := ⟨_, rfl⟩
                have tv517 := z_add ev517 rfl (by decide : (1 : Int32).toInt = 1) (by omega) (by omega)
                refine lv_iinc (v := v517) (lv' := [(4, .int v517), (5, .int 0), (0, .ref h), (1, .int a), (2, .int b), (3, .int d)]) hx hb dX12_sumUp_152 hl (k := 1) rfl (by rw [ev517]; rfl) (by decide) rfl (fun ls hl => ?_)
                refine lv_goto (tgt := 18) hx hb dX12_sumUp_155 (by decide) ?_
                exact ih508 v517 w507_i_12_19 w507_l_12_17 w507_l_12_18 ⟨by omega, by omega⟩ (show 0 ≤ (w507_l_12_18 : Int64).toInt from by omega) (show (w507_l_12_18 : Int64).toInt ≤ 9999 * (v517 : Int32).toInt from by omega) (show 100 * (w507_i_12_19 : Int32).toInt ≤ (w507_l_12_18 : Int64).toInt from by omega) (show 0 ≤ (w507_i_12_19 : Int32).toInt from by omega) (show (w507_i_12_19 : Int32).toInt ≤ (v517 : Int32).toInt from by omega) (show (w507_l_12_17 : Int64).toInt = (smL (fun s : Nat => ((fa 12 4) s).toInt = (a).toInt ∧ ((fa 12 5) s).toInt = (b).toInt ∧ ((fa 12 11) s).toInt ≤ (d).toInt ∧ (((fa 12 12) s).toInt < 0 ∨ (d).toInt < ((fa 12 12) s).toInt)) (fa 12 8) ((v517 : Int32).toInt).toNat).toInt from (by
                      have := congrArg Int32.toInt (show v510 = fa 12 9 ((x507_4 : Int32).toInt).toNat from ev510)
                      have := congrArg Int32.toInt (show v512 = fa 12 10 ((x507_4 : Int32).toInt).toNat from ev512)
                      have := congrArg Int32.toInt (show v515 = fa 12 4 ((x507_4 : Int32).toInt).toNat from ev515)
                      have hs9 : ((v517 : Int32).toInt).toNat = ((x507_4 : Int32).toInt).toNat + 1 := by omega
                      have hc : ¬ ((fa 12 4 ((x507_4 : Int32).toInt).toNat).toInt = a.toInt ∧ (fa 12 5 ((x507_4 : Int32).toInt).toNat).toInt = b.toInt ∧ (fa 12 11 ((x507_4 : Int32).toInt).toNat).toInt ≤ d.toInt ∧ ((fa 12 12 ((x507_4 : Int32).toInt).toNat).toInt < 0 ∨ d.toInt < (fa 12 12 ((x507_4 : Int32).toInt).toNat).toInt)) := by omega
                      rw [smL_n hs9 hc]; exact hq508_5)) (show (w507_l_12_18 : Int64).toInt = (smL (fun s : Nat => ((fa 12 4) s).toInt = (a).toInt ∧ ((fa 12 5) s).toInt = (b).toInt ∧ ((fa 12 11) s).toInt ≤ (d).toInt ∧ (((fa 12 12) s).toInt < 0 ∨ (d).toInt < ((fa 12 12) s).toInt)) (fa 12 7) ((v517 : Int32).toInt).toNat).toInt from (by
                      have := congrArg Int32.toInt (show v510 = fa 12 9 ((x507_4 : Int32).toInt).toNat from ev510)
                      have := congrArg Int32.toInt (show v512 = fa 12 10 ((x507_4 : Int32).toInt).toNat from ev512)
                      have := congrArg Int32.toInt (show v515 = fa 12 4 ((x507_4 : Int32).toInt).toNat from ev515)
                      have hs9 : ((v517 : Int32).toInt).toNat = ((x507_4 : Int32).toInt).toNat + 1 := by omega
                      have hc : ¬ ((fa 12 4 ((x507_4 : Int32).toInt).toNat).toInt = a.toInt ∧ (fa 12 5 ((x507_4 : Int32).toInt).toNat).toInt = b.toInt ∧ (fa 12 11 ((x507_4 : Int32).toInt).toNat).toInt ≤ d.toInt ∧ ((fa 12 12 ((x507_4 : Int32).toInt).toNat).toInt < 0 ∨ d.toInt < (fa 12 12 ((x507_4 : Int32).toInt).toNat).toInt)) := by omega
                      rw [smL_n hs9 hc]; exact hq508_6)) (show (w507_i_12_19 : Int32).toInt = (smC (fun s : Nat => ((fa 12 4) s).toInt = (a).toInt ∧ ((fa 12 5) s).toInt = (b).toInt ∧ ((fa 12 11) s).toInt ≤ (d).toInt ∧ (((fa 12 12) s).toInt < 0 ∨ (d).toInt < ((fa 12 12) s).toInt)) ((v517 : Int32).toInt).toNat).toInt from (by
                      have := congrArg Int32.toInt (show v510 = fa 12 9 ((x507_4 : Int32).toInt).toNat from ev510)
                      have := congrArg Int32.toInt (show v512 = fa 12 10 ((x507_4 : Int32).toInt).toNat from ev512)
                      have := congrArg Int32.toInt (show v515 = fa 12 4 ((x507_4 : Int32).toInt).toNat from ev515)
                      have hs9 : ((v517 : Int32).toInt).toNat = ((x507_4 : Int32).toInt).toNat + 1 := by omega
                      have hc : ¬ ((fa 12 4 ((x507_4 : Int32).toInt).toNat).toInt = a.toInt ∧ (fa 12 5 ((x507_4 : Int32).toInt).toNat).toInt = b.toInt ∧ (fa 12 11 ((x507_4 : Int32).toInt).toNat).toInt ≤ d.toInt ∧ ((fa 12 12 ((x507_4 : Int32).toInt).toNat).toInt < 0 ∨ d.toInt < (fa 12 12 ((x507_4 : Int32).toInt).toNat).toInt)) := by omega
                      rw [smC_n hs9 hc]; exact hq508_7)) (show (v517 : Int32).toInt ≤ ((iv 12 3) : Int32).toInt from by omega) (by omega) _ _ ls hP hD hS (lv_sub hl [0, 2, 3, 4, 5] rfl)
              · have fc516 := z_eq (rfl : (v515).toInt = _) (rfl : (a).toInt = _) c516
                refine lv_aload_n hx hb dX12_sumUp_82 rfl (lv_at hl 2 rfl) ?_
                refine gM_12_5 hx hb ht hown hK hP m_1144 dX12_sumUp_83 ?_
                refine lv_iload hx hb dX12_sumUp_86 (lv_at hl 1 rfl) ?_
                refine lM_12_5 hx hb hK hP (f := (fa 12 5)) rfl (vp_in_iff.mpr ⟨by omega, by omega⟩) dX12_sumUp_88 ?_
                refine lv_topi (fun v518 ev518 => ?_)
                refine lv_iload_n hx hb dX12_sumUp_89 rfl (lv_at hl 4 rfl) ?_
                refine lv_icmp_ne (tgt := 152) hx hb dX12_sumUp_90 (by decide) (fun c519 => ?_) (fun c519 => ?_)
                · have fc519 := z_ne (rfl : (v518).toInt = _) (rfl : (b).toInt = _) c519
                  obtain ⟨v520, ev520⟩ : ∃ y : Int32, y = x507_4 + 1 := ⟨_, rfl⟩
                  have tv520 := z_add ev520 rfl (by decide : (1 : Int32).toInt = 1) (by omega) (by omega)
                  refine lv_iinc (v := v520) (lv' := [(4, .int v520), (5, .int 0), (0, .ref h), (1, .int a), (2, .int b), (3, .int d)]) hx hb dX12_sumUp_152 hl (k := 1) rfl (by rw [ev520]; rfl) (by decide) rfl (fun ls hl => ?_)
                  refine lv_goto (tgt := 18) hx hb dX12_sumUp_155 (by decide) ?_
                  exact ih508 v520 w507_i_12_19 w507_l_12_17 w507_l_12_18 ⟨by omega, by omega⟩ (show 0 ≤ (w507_l_12_18 : Int64).toInt from by omega) (show (w507_l_12_18 : Int64).toInt ≤ 9999 * (v520 : Int32).toInt from by omega) (show 100 * (w507_i_12_19 : Int32).toInt ≤ (w507_l_12_18 : Int64).toInt from by omega) (show 0 ≤ (w507_i_12_19 : Int32).toInt from by omega) (show (w507_i_12_19 : Int32).toInt ≤ (v520 : Int32).toInt from by omega) (show (w507_l_12_17 : Int64).toInt = (smL (fun s : Nat => ((fa 12 4) s).toInt = (a).toInt ∧ ((fa 12 5) s).toInt = (b).toInt ∧ ((fa 12 11) s).toInt ≤ (d).toInt ∧ (((fa 12 12) s).toInt < 0 ∨ (d).toInt < ((fa 12 12) s).toInt)) (fa 12 8) ((v520 : Int32).toInt).toNat).toInt from (by
                        have := congrArg Int32.toInt (show v510 = fa 12 9 ((x507_4 : Int32).toInt).toNat from ev510)
                        have := congrArg Int32.toInt (show v512 = fa 12 10 ((x507_4 : Int32).toInt).toNat from ev512)
                        have := congrArg Int32.toInt (show v515 = fa 12 4 ((x507_4 : Int32).toInt).toNat from ev515)
                        have := congrArg Int32.toInt (show v518 = fa 12 5 ((x507_4 : Int32).toInt).toNat from ev518)
                        have hs9 : ((v520 : Int32).toInt).toNat = ((x507_4 : Int32).toInt).toNat + 1 := by omega
                        have hc : ¬ ((fa 12 4 ((x507_4 : Int32).toInt).toNat).toInt = a.toInt ∧ (fa 12 5 ((x507_4 : Int32).toInt).toNat).toInt = b.toInt ∧ (fa 12 11 ((x507_4 : Int32).toInt).toNat).toInt ≤ d.toInt ∧ ((fa 12 12 ((x507_4 : Int32).toInt).toNat).toInt < 0 ∨ d.toInt < (fa 12 12 ((x507_4 : Int32).toInt).toNat).toInt)) := by omega
                        rw [smL_n hs9 hc]; exact hq508_5)) (show (w507_l_12_18 : Int64).toInt = (smL (fun s : Nat => ((fa 12 4) s).toInt = (a).toInt ∧ ((fa 12 5) s).toInt = (b).toInt ∧ ((fa 12 11) s).toInt ≤ (d).toInt ∧ (((fa 12 12) s).toInt < 0 ∨ (d).toInt < ((fa 12 12) s).toInt)) (fa 12 7) ((v520 : Int32).toInt).toNat).toInt from (by
                        have := congrArg Int32.toInt (show v510 = fa 12 9 ((x507_4 : Int32).toInt).toNat from ev510)
                        have := congrArg Int32.toInt (show v512 = fa 12 10 ((x507_4 : Int32).toInt).toNat from ev512)
                        have := congrArg Int32.toInt (show v515 = fa 12 4 ((x507_4 : Int32).toInt).toNat from ev515)
                        have := congrArg Int32.toInt (show v518 = fa 12 5 ((x507_4 : Int32).toInt).toNat from ev518)
                        have hs9 : ((v520 : Int32).toInt).toNat = ((x507_4 : Int32).toInt).toNat + 1 := by omega
                        have hc : ¬ ((fa 12 4 ((x507_4 : Int32).toInt).toNat).toInt = a.toInt ∧ (fa 12 5 ((x507_4 : Int32).toInt).toNat).toInt = b.toInt ∧ (fa 12 11 ((x507_4 : Int32).toInt).toNat).toInt ≤ d.toInt ∧ ((fa 12 12 ((x507_4 : Int32).toInt).toNat).toInt < 0 ∨ d.toInt < (fa 12 12 ((x507_4 : Int32).toInt).toNat).toInt)) := by omega
                        rw [smL_n hs9 hc]; exact hq508_6)) (show (w507_i_12_19 : Int32).toInt = (smC (fun s : Nat => ((fa 12 4) s).toInt = (a).toInt ∧ ((fa 12 5) s).toInt = (b).toInt ∧ ((fa 12 11) s).toInt ≤ (d).toInt ∧ (((fa 12 12) s).toInt < 0 ∨ (d).toInt < ((fa 12 12) s).toInt)) ((v520 : Int32).toInt).toNat).toInt from (by
                        have := congrArg Int32.toInt (show v510 = fa 12 9 ((x507_4 : Int32).toInt).toNat from ev510)
                        have := congrArg Int32.toInt (show v512 = fa 12 10 ((x507_4 : Int32).toInt).toNat from ev512)
                        have := congrArg Int32.toInt (show v515 = fa 12 4 ((x507_4 : Int32).toInt).toNat from ev515)
                        have := congrArg Int32.toInt (show v518 = fa 12 5 ((x507_4 : Int32).toInt).toNat from ev518)
                        have hs9 : ((v520 : Int32).toInt).toNat = ((x507_4 : Int32).toInt).toNat + 1 := by omega
                        have hc : ¬ ((fa 12 4 ((x507_4 : Int32).toInt).toNat).toInt = a.toInt ∧ (fa 12 5 ((x507_4 : Int32).toInt).toNat).toInt = b.toInt ∧ (fa 12 11 ((x507_4 : Int32).toInt).toNat).toInt ≤ d.toInt ∧ ((fa 12 12 ((x507_4 : Int32).toInt).toNat).toInt < 0 ∨ d.toInt < (fa 12 12 ((x507_4 : Int32).toInt).toNat).toInt)) := by omega
                        rw [smC_n hs9 hc]; exact hq508_7)) (show (v520 : Int32).toInt ≤ ((iv 12 3) : Int32).toInt from by omega) (by omega) _ _ ls hP hD hS (lv_sub hl [0, 2, 3, 4, 5] rfl)
                · have fc519 := z_eq (rfl : (v518).toInt = _) (rfl : (b).toInt = _) c519
                  refine lv_aload_n hx hb dX12_sumUp_93 rfl (lv_at hl 2 rfl) ?_
                  refine lv_iload hx hb dX12_sumUp_94 (lv_at hl 1 rfl) ?_
                  refine lv_iload_n hx hb dX12_sumUp_96 rfl (lv_at hl 5 rfl) ?_
                  refine vp_callSi (W.runV (As := [.int x507_4, .int d]) (rest := []) ⟨hx, hb, hml, hown, ht⟩ (c_X12_isThere_x l dC dI h g ca (u2 iv 12 19 w507_i_12_19) (u2 (u2 lv 12 17 w507_l_12_17) 12 18 w507_l_12_18) fa la (IX_i (c := 12) (k := 19) hI (full_i _)) x507_4 d ⟨by omega, by omega⟩) (kV 2 ht m_1438 m_1440 m_46 m_89 m_1441 rfl rfl hd_X12_isThere_v ⟨Nat.le_of_ble_eq_true rfl, Nat.le_of_ble_eq_true rfl⟩) (vR hP hK (rM_12 hK hP)) rfl rfl hl.1 rfl (lv_room (Nat.le_of_ble_eq_true rfl)) dX12_sumUp_97 ⟨Nat.le_of_ble_eq_true rfl, Nat.le_of_ble_eq_true rfl⟩) (fun r521 hr521 => ?_)
                  obtain ⟨hr521, xr521_0⟩ := hr521
                  have xr521_0 : (((r521 : Int32).toInt = 1 ∧ ((fa 12 11) (x507_4 : Int32).toNatClampNeg).toInt ≤ (d : Int32).toInt ∧ (((fa 12 12) (x507_4 : Int32).toNatClampNeg).toInt < 0 ∨ (d : Int32).toInt < ((fa 12 12) (x507_4 : Int32).toNatClampNeg).toInt)) ∨ ((r521 : Int32).toInt = 0 ∧ ¬ (((fa 12 11) (x507_4 : Int32).toNatClampNeg).toInt ≤ (d : Int32).toInt ∧ (((fa 12 12) (x507_4 : Int32).toNatClampNeg).toInt < 0 ∨ (d : Int32).toInt < ((fa 12 12) (x507_4 : Int32).toNatClampNeg).toInt)))) := xr521_0
                  refine lv_if_eq (tgt := 152) hx hb dX12_sumUp_100 (by decide) (fun c522 => ?_) (fun c522 => ?_)
                  · have fc522 := z_eq (rfl : (r521).toInt = _) (by decide : (0 : Int32).toInt = 0) c522
                    obtain ⟨v523, ev523⟩ : ∃ y : Int32, y = x507_4 + 1 := ⟨_, rfl⟩
                    have tv523 := z_add ev523 rfl (by decide : (1 : Int32).toInt = 1) (by omega) (by omega)
                    refine lv_iinc (v := v523) (lv' := [(4, .int v523), (5, .int 0), (0, .ref h), (1, .int a), (2, .int b), (3, .int d)]) hx hb dX12_sumUp_152 hl (k := 1) rfl (by rw [ev523]; rfl) (by decide) rfl (fun ls hl => ?_)
                    refine lv_goto (tgt := 18) hx hb dX12_sumUp_155 (by decide) ?_
                    exact ih508 v523 w507_i_12_19 w507_l_12_17 w507_l_12_18 ⟨by omega, by omega⟩ (show 0 ≤ (w507_l_12_18 : Int64).toInt from by omega) (show (w507_l_12_18 : Int64).toInt ≤ 9999 * (v523 : Int32).toInt from by omega) (show 100 * (w507_i_12_19 : Int32).toInt ≤ (w507_l_12_18 : Int64).toInt from by omega) (show 0 ≤ (w507_i_12_19 : Int32).toInt from by omega) (show (w507_i_12_19 : Int32).toInt ≤ (v523 : Int32).toInt from by omega) (show (w507_l_12_17 : Int64).toInt = (smL (fun s : Nat => ((fa 12 4) s).toInt = (a).toInt ∧ ((fa 12 5) s).toInt = (b).toInt ∧ ((fa 12 11) s).toInt ≤ (d).toInt ∧ (((fa 12 12) s).toInt < 0 ∨ (d).toInt < ((fa 12 12) s).toInt)) (fa 12 8) ((v523 : Int32).toInt).toNat).toInt from (by
                          have := congrArg Int32.toInt (show v510 = fa 12 9 ((x507_4 : Int32).toInt).toNat from ev510)
                          have := congrArg Int32.toInt (show v512 = fa 12 10 ((x507_4 : Int32).toInt).toNat from ev512)
                          have := congrArg Int32.toInt (show v515 = fa 12 4 ((x507_4 : Int32).toInt).toNat from ev515)
                          have := congrArg Int32.toInt (show v518 = fa 12 5 ((x507_4 : Int32).toInt).toNat from ev518)
                          have y9 : ((r521 : Int32).toInt = 1 ∧ (fa 12 11 ((x507_4 : Int32).toInt).toNat).toInt ≤ (d : Int32).toInt ∧ ((fa 12 12 ((x507_4 : Int32).toInt).toNat).toInt < 0 ∨ (d : Int32).toInt < (fa 12 12 ((x507_4 : Int32).toInt).toNat).toInt)) ∨ ((r521 : Int32).toInt = 0 ∧ ¬ ((fa 12 11 ((x507_4 : Int32).toInt).toNat).toInt ≤ (d : Int32).toInt ∧ ((fa 12 12 ((x507_4 : Int32).toInt).toNat).toInt < 0 ∨ (d : Int32).toInt < (fa 12 12 ((x507_4 : Int32).toInt).toNat).toInt))) := xr521_0
                          have hs9 : ((v523 : Int32).toInt).toNat = ((x507_4 : Int32).toInt).toNat + 1 := by omega
                          have hc : ¬ ((fa 12 4 ((x507_4 : Int32).toInt).toNat).toInt = a.toInt ∧ (fa 12 5 ((x507_4 : Int32).toInt).toNat).toInt = b.toInt ∧ (fa 12 11 ((x507_4 : Int32).toInt).toNat).toInt ≤ d.toInt ∧ ((fa 12 12 ((x507_4 : Int32).toInt).toNat).toInt < 0 ∨ d.toInt < (fa 12 12 ((x507_4 : Int32).toInt).toNat).toInt)) := by omega
                          rw [smL_n hs9 hc]; exact hq508_5)) (show (w507_l_12_18 : Int64).toInt = (smL (fun s : Nat => ((fa 12 4) s).toInt = (a).toInt ∧ ((fa 12 5) s).toInt = (b).toInt ∧ ((fa 12 11) s).toInt ≤ (d).toInt ∧ (((fa 12 12) s).toInt < 0 ∨ (d).toInt < ((fa 12 12) s).toInt)) (fa 12 7) ((v523 : Int32).toInt).toNat).toInt from (by
                          have := congrArg Int32.toInt (show v510 = fa 12 9 ((x507_4 : Int32).toInt).toNat from ev510)
                          have := congrArg Int32.toInt (show v512 = fa 12 10 ((x507_4 : Int32).toInt).toNat from ev512)
                          have := congrArg Int32.toInt (show v515 = fa 12 4 ((x507_4 : Int32).toInt).toNat from ev515)
                          have := congrArg Int32.toInt (show v518 = fa 12 5 ((x507_4 : Int32).toInt).toNat from ev518)
                          have y9 : ((r521 : Int32).toInt = 1 ∧ (fa 12 11 ((x507_4 : Int32).toInt).toNat).toInt ≤ (d : Int32).toInt ∧ ((fa 12 12 ((x507_4 : Int32).toInt).toNat).toInt < 0 ∨ (d : Int32).toInt < (fa 12 12 ((x507_4 : Int32).toInt).toNat).toInt)) ∨ ((r521 : Int32).toInt = 0 ∧ ¬ ((fa 12 11 ((x507_4 : Int32).toInt).toNat).toInt ≤ (d : Int32).toInt ∧ ((fa 12 12 ((x507_4 : Int32).toInt).toNat).toInt < 0 ∨ (d : Int32).toInt < (fa 12 12 ((x507_4 : Int32).toInt).toNat).toInt))) := xr521_0
                          have hs9 : ((v523 : Int32).toInt).toNat = ((x507_4 : Int32).toInt).toNat + 1 := by omega
                          have hc : ¬ ((fa 12 4 ((x507_4 : Int32).toInt).toNat).toInt = a.toInt ∧ (fa 12 5 ((x507_4 : Int32).toInt).toNat).toInt = b.toInt ∧ (fa 12 11 ((x507_4 : Int32).toInt).toNat).toInt ≤ d.toInt ∧ ((fa 12 12 ((x507_4 : Int32).toInt).toNat).toInt < 0 ∨ d.toInt < (fa 12 12 ((x507_4 : Int32).toInt).toNat).toInt)) := by omega
                          rw [smL_n hs9 hc]; exact hq508_6)) (show (w507_i_12_19 : Int32).toInt = (smC (fun s : Nat => ((fa 12 4) s).toInt = (a).toInt ∧ ((fa 12 5) s).toInt = (b).toInt ∧ ((fa 12 11) s).toInt ≤ (d).toInt ∧ (((fa 12 12) s).toInt < 0 ∨ (d).toInt < ((fa 12 12) s).toInt)) ((v523 : Int32).toInt).toNat).toInt from (by
                          have := congrArg Int32.toInt (show v510 = fa 12 9 ((x507_4 : Int32).toInt).toNat from ev510)
                          have := congrArg Int32.toInt (show v512 = fa 12 10 ((x507_4 : Int32).toInt).toNat from ev512)
                          have := congrArg Int32.toInt (show v515 = fa 12 4 ((x507_4 : Int32).toInt).toNat from ev515)
                          have := congrArg Int32.toInt (show v518 = fa 12 5 ((x507_4 : Int32).toInt).toNat from ev518)
                          have y9 : ((r521 : Int32).toInt = 1 ∧ (fa 12 11 ((x507_4 : Int32).toInt).toNat).toInt ≤ (d : Int32).toInt ∧ ((fa 12 12 ((x507_4 : Int32).toInt).toNat).toInt < 0 ∨ (d : Int32).toInt < (fa 12 12 ((x507_4 : Int32).toInt).toNat).toInt)) ∨ ((r521 : Int32).toInt = 0 ∧ ¬ ((fa 12 11 ((x507_4 : Int32).toInt).toNat).toInt ≤ (d : Int32).toInt ∧ ((fa 12 12 ((x507_4 : Int32).toInt).toNat).toInt < 0 ∨ (d : Int32).toInt < (fa 12 12 ((x507_4 : Int32).toInt).toNat).toInt))) := xr521_0
                          have hs9 : ((v523 : Int32).toInt).toNat = ((x507_4 : Int32).toInt).toNat + 1 := by omega
                          have hc : ¬ ((fa 12 4 ((x507_4 : Int32).toInt).toNat).toInt = a.toInt ∧ (fa 12 5 ((x507_4 : Int32).toInt).toNat).toInt = b.toInt ∧ (fa 12 11 ((x507_4 : Int32).toInt).toNat).toInt ≤ d.toInt ∧ ((fa 12 12 ((x507_4 : Int32).toInt).toNat).toInt < 0 ∨ d.toInt < (fa 12 12 ((x507_4 : Int32).toInt).toNat).toInt)) := by omega
                          rw [smC_n hs9 hc]; exact hq508_7)) (show (v523 : Int32).toInt ≤ ((iv 12 3) : Int32).toInt from by omega) (by omega) _ _ ls hP hD hS (lv_sub hl [0, 2, 3, 4, 5] rfl)
                  · have fc522 := z_ne (rfl : (r521).toInt = _) (by decide : (0 : Int32).toInt = 0) c522
                    refine lv_iload hx hb dX12_sumUp_103 (lv_at hl 0 rfl) ?_
                    refine lv_if_ne (tgt := 152) hx hb dX12_sumUp_105 (by decide) (fun c524 => ?_) (fun c524 => ?_)
                    · exact absurd rfl c524
                    · skip
                      refine lv_aload_n hx hb dX12_sumUp_108 rfl (lv_at hl 2 rfl) ?_
                      refine lv_dup hx hb dX12_sumUp_109 rfl ?_
                      refine gM_12_17 hx hb ht hown hK hP m_1156 (v := w507_l_12_17) rfl dX12_sumUp_110 ?_
                      refine lv_aload_n hx hb dX12_sumUp_113 rfl (lv_at hl 2 rfl) ?_
                      refine gM_12_8 hx hb ht hown hK hP m_1147 dX12_sumUp_114 ?_
                      refine lv_iload hx hb dX12_sumUp_117 (lv_at hl 1 rfl) ?_
                      refine lM_12_8 hx hb hK hP (f := (fa 12 8)) rfl (vp_in_iff.mpr ⟨by omega, by omega⟩) dX12_sumUp_119 ?_
                      refine lv_topi (fun v525 ev525 => ?_)
                      refine lv_i2l (v := (v525.toInt64)) hx hb dX12_sumUp_120 rfl ?_
                      refine lv_ladd hx hb dX12_sumUp_121 ?_
                      refine lv_topl (fun w526 ew526 => ?_)
                      refine pM_12_17 (v := w526) hx hb ht hown hK hP hD hS m_1156 dX12_sumUp_122 (fun H locs hP hD hS => ?_)
                      have hP : va_P (dC, dI) classes (WM h g ca (u2 iv 12 19 w507_i_12_19) (u2 (u2 lv 12 17 w526) 12 18 w507_l_12_18) fa la) H := hP
                      have hD : va_D A (WM h g ca (u2 iv 12 19 w507_i_12_19) (u2 (u2 lv 12 17 w526) 12 18 w507_l_12_18) fa la) := hD
                      refine lv_aload_n hx hb dX12_sumUp_125 rfl (lv_at hl 2 rfl) ?_
                      refine lv_dup hx hb dX12_sumUp_126 rfl ?_
                      refine gM_12_18 hx hb ht hown hK hP m_1157 (v := w507_l_12_18) rfl dX12_sumUp_127 ?_
                      refine lv_aload_n hx hb dX12_sumUp_130 rfl (lv_at hl 2 rfl) ?_
                      refine gM_12_7 hx hb ht hown hK hP m_1146 dX12_sumUp_131 ?_
                      refine lv_iload hx hb dX12_sumUp_134 (lv_at hl 1 rfl) ?_
                      refine lM_12_7 hx hb hK hP (f := (fa 12 7)) rfl (vp_in_iff.mpr ⟨by omega, by omega⟩) dX12_sumUp_136 ?_
                      refine lv_topi (fun v527 ev527 => ?_)
                      have tv527 : 0 ≤ v527.toInt ∧ v527.toInt ≤ 9999 := by rw [ev527]; exact hI.2 12 7 _
                      have hr9 := hJR (x507_4 : Int32).toNatClampNeg (by show (((x507_4 : Int32).toInt.toNat : Nat) : Int) < _; omega)
                      rw [← ev527] at hr9
                      refine lv_i2l (v := (v527.toInt64)) hx hb dX12_sumUp_137 rfl ?_
                      have : 0 ≤ (w507_l_12_18 : Int64).toInt ∧ (w507_l_12_18 : Int64).toInt ≤ 599940 := ⟨by omega, by omega⟩
                      refine lv_ladd hx hb dX12_sumUp_138 ?_
                      refine lv_topl (fun w528 ew528 => ?_)
                      have tw528 := l_add ew528 (rfl : (w507_l_12_18).toInt = _) ((Int32.toInt_toInt64 v527).trans rfl) (by omega) (by omega)
                      refine pM_12_18 (v := w528) hx hb ht hown hK hP hD hS m_1157 dX12_sumUp_139 (fun H locs hP hD hS => ?_)
                      have hP : va_P (dC, dI) classes (WM h g ca (u2 iv 12 19 w507_i_12_19) (u2 (u2 lv 12 17 w526) 12 18 w528) fa la) H := hP
                      have hD : va_D A (WM h g ca (u2 iv 12 19 w507_i_12_19) (u2 (u2 lv 12 17 w526) 12 18 w528) fa la) := hD
                      refine lv_aload_n hx hb dX12_sumUp_142 rfl (lv_at hl 2 rfl) ?_
                      refine lv_dup hx hb dX12_sumUp_143 rfl ?_
                      refine gM_12_19 hx hb ht hown hK hP m_1158 (v := w507_i_12_19) rfl dX12_sumUp_144 ?_
                      refine lv_iconst (v := 1) hx hb dX12_sumUp_147 (by decide) ?_
                      have : 0 ≤ (w507_i_12_19 : Int32).toInt ∧ (w507_i_12_19 : Int32).toInt ≤ 59 := ⟨by omega, by omega⟩
                      refine lv_iadd hx hb dX12_sumUp_148 ?_
                      refine lv_topi (fun v529 ev529 => ?_)
                      have tv529 := z_add ev529 (rfl : (w507_i_12_19).toInt = _) (by decide : (1 : Int32).toInt = 1) (by omega) (by omega)
                      refine pM_12_19 (v := v529) hx hb ht hown hK hP hD hS m_1158 dX12_sumUp_149 (fun H locs hP hD hS => ?_)
                      have hP : va_P (dC, dI) classes (WM h g ca (u2 iv 12 19 v529) (u2 (u2 lv 12 17 w526) 12 18 w528) fa la) H := hP
                      have hD : va_D A (WM h g ca (u2 iv 12 19 v529) (u2 (u2 lv 12 17 w526) 12 18 w528) fa la) := hD
                      obtain ⟨v530, ev530⟩ : ∃ y : Int32, y = x507_4 + 1 := ⟨_, rfl⟩
                      have tv530 := z_add ev530 rfl (by decide : (1 : Int32).toInt = 1) (by omega) (by omega)
                      refine lv_iinc (v := v530) (lv' := [(4, .int v530), (5, .int 0), (0, .ref h), (1, .int a), (2, .int b), (3, .int d)]) hx hb dX12_sumUp_152 hl (k := 1) rfl (by rw [ev530]; rfl) (by decide) rfl (fun ls hl => ?_)
                      refine lv_goto (tgt := 18) hx hb dX12_sumUp_155 (by decide) ?_
                      exact ih508 v530 v529 w526 w528 ⟨by omega, by omega⟩ (show 0 ≤ (w528 : Int64).toInt from by omega) (show (w528 : Int64).toInt ≤ 9999 * (v530 : Int32).toInt from by omega) (show 100 * (v529 : Int32).toInt ≤ (w528 : Int64).toInt from by omega) (show 0 ≤ (v529 : Int32).toInt from by omega) (show (v529 : Int32).toInt ≤ (v530 : Int32).toInt from by omega) (show (w526 : Int64).toInt = (smL (fun s : Nat => ((fa 12 4) s).toInt = (a).toInt ∧ ((fa 12 5) s).toInt = (b).toInt ∧ ((fa 12 11) s).toInt ≤ (d).toInt ∧ (((fa 12 12) s).toInt < 0 ∨ (d).toInt < ((fa 12 12) s).toInt)) (fa 12 8) ((v530 : Int32).toInt).toNat).toInt from (by
                            have := congrArg Int32.toInt (show v510 = fa 12 9 ((x507_4 : Int32).toInt).toNat from ev510)
                            have := congrArg Int32.toInt (show v512 = fa 12 10 ((x507_4 : Int32).toInt).toNat from ev512)
                            have := congrArg Int32.toInt (show v515 = fa 12 4 ((x507_4 : Int32).toInt).toNat from ev515)
                            have := congrArg Int32.toInt (show v518 = fa 12 5 ((x507_4 : Int32).toInt).toNat from ev518)
                            have y9 : ((r521 : Int32).toInt = 1 ∧ (fa 12 11 ((x507_4 : Int32).toInt).toNat).toInt ≤ (d : Int32).toInt ∧ ((fa 12 12 ((x507_4 : Int32).toInt).toNat).toInt < 0 ∨ (d : Int32).toInt < (fa 12 12 ((x507_4 : Int32).toInt).toNat).toInt)) ∨ ((r521 : Int32).toInt = 0 ∧ ¬ ((fa 12 11 ((x507_4 : Int32).toInt).toNat).toInt ≤ (d : Int32).toInt ∧ ((fa 12 12 ((x507_4 : Int32).toInt).toNat).toInt < 0 ∨ (d : Int32).toInt < (fa 12 12 ((x507_4 : Int32).toInt).toNat).toInt))) := xr521_0
                            have hs9 : ((v530 : Int32).toInt).toNat = ((x507_4 : Int32).toInt).toNat + 1 := by omega
                            have hc : (fa 12 4 ((x507_4 : Int32).toInt).toNat).toInt = a.toInt ∧ (fa 12 5 ((x507_4 : Int32).toInt).toNat).toInt = b.toInt ∧ (fa 12 11 ((x507_4 : Int32).toInt).toNat).toInt ≤ d.toInt ∧ ((fa 12 12 ((x507_4 : Int32).toInt).toNat).toInt < 0 ∨ d.toInt < (fa 12 12 ((x507_4 : Int32).toInt).toNat).toInt) := ⟨by omega, by omega, by omega, by omega⟩
                            have h1 : w507_l_12_17 = smL _ _ _ := Int64.toInt_inj.mp hq508_5
                            rw [smL_y hs9 hc, ← h1, ew526, ev525]; rfl)) (show (w528 : Int64).toInt = (smL (fun s : Nat => ((fa 12 4) s).toInt = (a).toInt ∧ ((fa 12 5) s).toInt = (b).toInt ∧ ((fa 12 11) s).toInt ≤ (d).toInt ∧ (((fa 12 12) s).toInt < 0 ∨ (d).toInt < ((fa 12 12) s).toInt)) (fa 12 7) ((v530 : Int32).toInt).toNat).toInt from (by
                            have := congrArg Int32.toInt (show v510 = fa 12 9 ((x507_4 : Int32).toInt).toNat from ev510)
                            have := congrArg Int32.toInt (show v512 = fa 12 10 ((x507_4 : Int32).toInt).toNat from ev512)
                            have := congrArg Int32.toInt (show v515 = fa 12 4 ((x507_4 : Int32).toInt).toNat from ev515)
                            have := congrArg Int32.toInt (show v518 = fa 12 5 ((x507_4 : Int32).toInt).toNat from ev518)
                            have y9 : ((r521 : Int32).toInt = 1 ∧ (fa 12 11 ((x507_4 : Int32).toInt).toNat).toInt ≤ (d : Int32).toInt ∧ ((fa 12 12 ((x507_4 : Int32).toInt).toNat).toInt < 0 ∨ (d : Int32).toInt < (fa 12 12 ((x507_4 : Int32).toInt).toNat).toInt)) ∨ ((r521 : Int32).toInt = 0 ∧ ¬ ((fa 12 11 ((x507_4 : Int32).toInt).toNat).toInt ≤ (d : Int32).toInt ∧ ((fa 12 12 ((x507_4 : Int32).toInt).toNat).toInt < 0 ∨ (d : Int32).toInt < (fa 12 12 ((x507_4 : Int32).toInt).toNat).toInt))) := xr521_0
                            have hs9 : ((v530 : Int32).toInt).toNat = ((x507_4 : Int32).toInt).toNat + 1 := by omega
                            have hc : (fa 12 4 ((x507_4 : Int32).toInt).toNat).toInt = a.toInt ∧ (fa 12 5 ((x507_4 : Int32).toInt).toNat).toInt = b.toInt ∧ (fa 12 11 ((x507_4 : Int32).toInt).toNat).toInt ≤ d.toInt ∧ ((fa 12 12 ((x507_4 : Int32).toInt).toNat).toInt < 0 ∨ d.toInt < (fa 12 12 ((x507_4 : Int32).toInt).toNat).toInt) := ⟨by omega, by omega, by omega, by omega⟩
                            have h1 : w507_l_12_18 = smL _ _ _ := Int64.toInt_inj.mp hq508_6
                            rw [smL_y hs9 hc, ← h1, ew528, ev527]; rfl)) (show (v529 : Int32).toInt = (smC (fun s : Nat => ((fa 12 4) s).toInt = (a).toInt ∧ ((fa 12 5) s).toInt = (b).toInt ∧ ((fa 12 11) s).toInt ≤ (d).toInt ∧ (((fa 12 12) s).toInt < 0 ∨ (d).toInt < ((fa 12 12) s).toInt)) ((v530 : Int32).toInt).toNat).toInt from (by
                            have := congrArg Int32.toInt (show v510 = fa 12 9 ((x507_4 : Int32).toInt).toNat from ev510)
                            have := congrArg Int32.toInt (show v512 = fa 12 10 ((x507_4 : Int32).toInt).toNat from ev512)
                            have := congrArg Int32.toInt (show v515 = fa 12 4 ((x507_4 : Int32).toInt).toNat from ev515)
                            have := congrArg Int32.toInt (show v518 = fa 12 5 ((x507_4 : Int32).toInt).toNat from ev518)
                            have y9 : ((r521 : Int32).toInt = 1 ∧ (fa 12 11 ((x507_4 : Int32).toInt).toNat).toInt ≤ (d : Int32).toInt ∧ ((fa 12 12 ((x507_4 : Int32).toInt).toNat).toInt < 0 ∨ (d : Int32).toInt < (fa 12 12 ((x507_4 : Int32).toInt).toNat).toInt)) ∨ ((r521 : Int32).toInt = 0 ∧ ¬ ((fa 12 11 ((x507_4 : Int32).toInt).toNat).toInt ≤ (d : Int32).toInt ∧ ((fa 12 12 ((x507_4 : Int32).toInt).toNat).toInt < 0 ∨ (d : Int32).toInt < (fa 12 12 ((x507_4 : Int32).toInt).toNat).toInt))) := xr521_0
                            have hs9 : ((v530 : Int32).toInt).toNat = ((x507_4 : Int32).toInt).toNat + 1 := by omega
                            have hc : (fa 12 4 ((x507_4 : Int32).toInt).toNat).toInt = a.toInt ∧ (fa 12 5 ((x507_4 : Int32).toInt).toNat).toInt = b.toInt ∧ (fa 12 11 ((x507_4 : Int32).toInt).toNat).toInt ≤ d.toInt ∧ ((fa 12 12 ((x507_4 : Int32).toInt).toNat).toInt < 0 ∨ d.toInt < (fa 12 12 ((x507_4 : Int32).toInt).toNat).toInt) := ⟨by omega, by omega, by omega, by omega⟩
                            have h1 : w507_i_12_19 = smC _ _ := Int32.toInt_inj.mp hq508_7
                            rw [smC_y hs9 hc, ← h1, ev529])) (show (v530 : Int32).toInt ≤ ((iv 12 3) : Int32).toInt from by omega) (by omega) _ _ ls hP hD hS (lv_sub hl [0, 2, 3, 4, 5] rfl)
            · have fc514 := z_eq (rfl : (x507_4).toInt = _) (rfl : ((iv 12 22)).toInt = _) c514; exfalso; omega
  have : (0 : Int32).toInt = 0 := (by decide)
  have : (0 : Int64).toInt = 0 := (by decide)
  have i_12_3 : 0 ≤ (iv 12 3).toInt ∧ (iv 12 3).toInt ≤ 60 := hI.1 12 3
  exact lp508 61 0 0 0 0 ⟨by decide, by decide⟩ (show 0 ≤ (0 : Int64).toInt from by omega) (show (0 : Int64).toInt ≤ 9999 * (0 : Int32).toInt from by omega) (show 100 * (0 : Int32).toInt ≤ (0 : Int64).toInt from by omega) (show 0 ≤ (0 : Int32).toInt from by omega) (show (0 : Int32).toInt ≤ (0 : Int32).toInt from by omega) (show (0 : Int64).toInt = (smL (fun s : Nat => ((fa 12 4) s).toInt = (a).toInt ∧ ((fa 12 5) s).toInt = (b).toInt ∧ ((fa 12 11) s).toInt ≤ (d).toInt ∧ (((fa 12 12) s).toInt < 0 ∨ (d).toInt < ((fa 12 12) s).toInt)) (fa 12 8) ((0 : Int32).toInt).toNat).toInt from (by have hz : ((0 : Int32).toInt).toNat = 0 := (by decide); rw [hz]; exact (by decide : (0 : Int64).toInt = 0))) (show (0 : Int64).toInt = (smL (fun s : Nat => ((fa 12 4) s).toInt = (a).toInt ∧ ((fa 12 5) s).toInt = (b).toInt ∧ ((fa 12 11) s).toInt ≤ (d).toInt ∧ (((fa 12 12) s).toInt < 0 ∨ (d).toInt < ((fa 12 12) s).toInt)) (fa 12 7) ((0 : Int32).toInt).toNat).toInt from (by have hz : ((0 : Int32).toInt).toNat = 0 := (by decide); rw [hz]; exact (by decide : (0 : Int64).toInt = 0))) (show (0 : Int32).toInt = (smC (fun s : Nat => ((fa 12 4) s).toInt = (a).toInt ∧ ((fa 12 5) s).toInt = (b).toInt ∧ ((fa 12 11) s).toInt ≤ (d).toInt ∧ (((fa 12 12) s).toInt < 0 ∨ (d).toInt < ((fa 12 12) s).toInt)) ((0 : Int32).toInt).toNat).toInt from (by have hz : ((0 : Int32).toInt).toNat = 0 := (by decide); rw [hz]; exact (by decide : (0 : Int32).toInt = 0))) (show (0 : Int32).toInt ≤ ((iv 12 3) : Int32).toInt from by omega) (by first | decide | omega) _ _ ls hP hD hS (lv_sub hl [0, 1, 2, 3, 4] rfl)
